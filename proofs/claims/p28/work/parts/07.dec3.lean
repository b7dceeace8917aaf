theorem dJ9_abs_0f7a4_0 : decode cJ9_abs_0f7a4 0 = .ok (.iload_n 0, 1) := by decide +kernel
theorem dJ9_abs_0f7a4_1 : decode cJ9_abs_0f7a4 1 = .ok (.ifCond .ge 8, 3) := by decide +kernel
theorem dJ9_abs_0f7a4_4 : decode cJ9_abs_0f7a4 4 = .ok (.iload_n 0, 1) := by decide +kernel
theorem dJ9_abs_0f7a4_5 : decode cJ9_abs_0f7a4 5 = .ok (.ineg, 1) := by decide +kernel
theorem dJ9_abs_0f7a4_6 : decode cJ9_abs_0f7a4 6 = .ok (.goto 4, 3) := by decide +kernel
theorem dJ9_abs_0f7a4_9 : decode cJ9_abs_0f7a4 9 = .ok (.iload_n 0, 1) := by decide +kernel
theorem dJ9_abs_0f7a4_10 : decode cJ9_abs_0f7a4 10 = .ok (.ireturn, 1) := by decide +kernel
theorem dJ9_max_7cf53_0 : decode cJ9_max_7cf53 0 = .ok (.iload_n 0, 1) := by decide +kernel
theorem dJ9_max_7cf53_1 : decode cJ9_max_7cf53 1 = .ok (.iload_n 1, 1) := by decide +kernel
theorem dJ9_max_7cf53_2 : decode cJ9_max_7cf53 2 = .ok (.if_icmp .lt 7, 3) := by decide +kernel
theorem dJ9_max_7cf53_5 : decode cJ9_max_7cf53 5 = .ok (.iload_n 0, 1) := by decide +kernel
theorem dJ9_max_7cf53_6 : decode cJ9_max_7cf53 6 = .ok (.goto 4, 3) := by decide +kernel
theorem dJ9_max_7cf53_9 : decode cJ9_max_7cf53 9 = .ok (.iload_n 1, 1) := by decide +kernel
theorem dJ9_max_7cf53_10 : decode cJ9_max_7cf53 10 = .ok (.ireturn, 1) := by decide +kernel
theorem dJ9_min_7cf53_0 : decode cJ9_min_7cf53 0 = .ok (.iload_n 0, 1) := by decide +kernel
theorem dJ9_min_7cf53_1 : decode cJ9_min_7cf53 1 = .ok (.iload_n 1, 1) := by decide +kernel
theorem dJ9_min_7cf53_2 : decode cJ9_min_7cf53 2 = .ok (.if_icmp .gt 7, 3) := by decide +kernel
theorem dJ9_min_7cf53_5 : decode cJ9_min_7cf53 5 = .ok (.iload_n 0, 1) := by decide +kernel
theorem dJ9_min_7cf53_6 : decode cJ9_min_7cf53 6 = .ok (.goto 4, 3) := by decide +kernel
theorem dJ9_min_7cf53_9 : decode cJ9_min_7cf53 9 = .ok (.iload_n 1, 1) := by decide +kernel
theorem dJ9_min_7cf53_10 : decode cJ9_min_7cf53 10 = .ok (.ireturn, 1) := by decide +kernel
theorem dJxa1e45_init_da8c8_0 : decode cJxa1e45_init_da8c8 0 = .ok (.aload_n 0, 1) := by decide +kernel
theorem dJxa1e45_init_da8c8_1 : decode cJxa1e45_init_da8c8 1 = .ok (.invokespecial 1, 3) := by decide +kernel
theorem dJxa1e45_init_da8c8_4 : decode cJxa1e45_init_da8c8 4 = .ok (.return_, 1) := by decide +kernel
theorem dJxc12de_init_da8c8_0 : decode cJxc12de_init_da8c8 0 = .ok (.aload_n 0, 1) := by decide +kernel
theorem dJxc12de_init_da8c8_1 : decode cJxc12de_init_da8c8 1 = .ok (.invokespecial 1, 3) := by decide +kernel
theorem dJxc12de_init_da8c8_4 : decode cJxc12de_init_da8c8 4 = .ok (.aload_n 0, 1) := by decide +kernel
theorem dJxc12de_init_da8c8_5 : decode cJxc12de_init_da8c8 5 = .ok (.iconst 0, 1) := by decide +kernel
theorem dJxc12de_init_da8c8_6 : decode cJxc12de_init_da8c8 6 = .ok (.putfield 7, 3) := by decide +kernel
theorem dJxc12de_init_da8c8_9 : decode cJxc12de_init_da8c8 9 = .ok (.return_, 1) := by decide +kernel
theorem dJx4a65c_init_da8c8_0 : decode cJx4a65c_init_da8c8 0 = .ok (.aload_n 0, 1) := by decide +kernel
theorem dJx4a65c_init_da8c8_1 : decode cJx4a65c_init_da8c8 1 = .ok (.invokespecial 1, 3) := by decide +kernel
theorem dJx4a65c_init_da8c8_4 : decode cJx4a65c_init_da8c8 4 = .ok (.aload_n 0, 1) := by decide +kernel
theorem dJx4a65c_init_da8c8_5 : decode cJx4a65c_init_da8c8 5 = .ok (.getstatic 39, 3) := by decide +kernel
theorem dJx4a65c_init_da8c8_8 : decode cJx4a65c_init_da8c8 8 = .ok (.putfield 9, 3) := by decide +kernel
theorem dJx4a65c_init_da8c8_11 : decode cJx4a65c_init_da8c8 11 = .ok (.return_, 1) := by decide +kernel
theorem dJx4a65c_grow_92f84_0 : decode cJx4a65c_grow_92f84 0 = .ok (.aload_n 0, 1) := by decide +kernel
theorem dJx4a65c_grow_92f84_1 : decode cJx4a65c_grow_92f84 1 = .ok (.getfield 9, 3) := by decide +kernel
theorem dJx4a65c_grow_92f84_4 : decode cJx4a65c_grow_92f84 4 = .ok (.arraylength, 1) := by decide +kernel
theorem dJx4a65c_grow_92f84_5 : decode cJx4a65c_grow_92f84 5 = .ok (.istore_n 2, 1) := by decide +kernel
theorem dJx4a65c_grow_92f84_6 : decode cJx4a65c_grow_92f84 6 = .ok (.iload_n 2, 1) := by decide +kernel
theorem dJx4a65c_grow_92f84_7 : decode cJx4a65c_grow_92f84 7 = .ok (.ifCond .gt 13, 3) := by decide +kernel
theorem dJx4a65c_grow_92f84_10 : decode cJx4a65c_grow_92f84 10 = .ok (.aload_n 0, 1) := by decide +kernel
theorem dJx4a65c_grow_92f84_11 : decode cJx4a65c_grow_92f84 11 = .ok (.getfield 9, 3) := by decide +kernel
theorem dJx4a65c_grow_92f84_14 : decode cJx4a65c_grow_92f84 14 = .ok (.getstatic 39, 3) := by decide +kernel
theorem dJx4a65c_grow_92f84_17 : decode cJx4a65c_grow_92f84 17 = .ok (.if_acmp .eq 28, 3) := by decide +kernel
theorem dJx4a65c_grow_92f84_20 : decode cJx4a65c_grow_92f84 20 = .ok (.iload_n 2, 1) := by decide +kernel
theorem dJx4a65c_grow_92f84_21 : decode cJx4a65c_grow_92f84 21 = .ok (.iload_n 1, 1) := by decide +kernel
theorem dJx4a65c_grow_92f84_22 : decode cJx4a65c_grow_92f84 22 = .ok (.iload_n 2, 1) := by decide +kernel
theorem dJx4a65c_grow_92f84_23 : decode cJx4a65c_grow_92f84 23 = .ok (.isub, 1) := by decide +kernel
theorem dJx4a65c_grow_92f84_24 : decode cJx4a65c_grow_92f84 24 = .ok (.iload_n 2, 1) := by decide +kernel
theorem dJx4a65c_grow_92f84_25 : decode cJx4a65c_grow_92f84 25 = .ok (.iconst 1, 1) := by decide +kernel
theorem dJx4a65c_grow_92f84_26 : decode cJx4a65c_grow_92f84 26 = .ok (.ishr, 1) := by decide +kernel
theorem dJx4a65c_grow_92f84_27 : decode cJx4a65c_grow_92f84 27 = .ok (.invokestatic 73, 3) := by decide +kernel
theorem dJx4a65c_grow_92f84_30 : decode cJx4a65c_grow_92f84 30 = .ok (.istore_n 3, 1) := by decide +kernel
theorem dJx4a65c_grow_92f84_31 : decode cJx4a65c_grow_92f84 31 = .ok (.aload_n 0, 1) := by decide +kernel
theorem dJx4a65c_grow_92f84_32 : decode cJx4a65c_grow_92f84 32 = .ok (.aload_n 0, 1) := by decide +kernel
theorem dJx4a65c_grow_92f84_33 : decode cJx4a65c_grow_92f84 33 = .ok (.getfield 9, 3) := by decide +kernel
theorem dJx4a65c_grow_92f84_36 : decode cJx4a65c_grow_92f84 36 = .ok (.iload_n 3, 1) := by decide +kernel
theorem dJx4a65c_grow_92f84_37 : decode cJx4a65c_grow_92f84 37 = .ok (.invokestatic 66, 3) := by decide +kernel
theorem dJx4a65c_grow_92f84_40 : decode cJx4a65c_grow_92f84 40 = .ok (.dup_x1, 1) := by decide +kernel
theorem dJx4a65c_grow_92f84_41 : decode cJx4a65c_grow_92f84 41 = .ok (.putfield 9, 3) := by decide +kernel
theorem dJx4a65c_grow_92f84_44 : decode cJx4a65c_grow_92f84 44 = .ok (.areturn, 1) := by decide +kernel
theorem dJx4a65c_grow_92f84_45 : decode cJx4a65c_grow_92f84 45 = .ok (.aload_n 0, 1) := by decide +kernel
theorem dJx4a65c_grow_92f84_46 : decode cJx4a65c_grow_92f84 46 = .ok (.bipush 10, 2) := by decide +kernel
theorem dJx4a65c_grow_92f84_48 : decode cJx4a65c_grow_92f84 48 = .ok (.iload_n 1, 1) := by decide +kernel
theorem dJx4a65c_grow_92f84_49 : decode cJx4a65c_grow_92f84 49 = .ok (.invokestatic 79, 3) := by decide +kernel
theorem dJx4a65c_grow_92f84_52 : decode cJx4a65c_grow_92f84 52 = .ok (.anewarray 7, 3) := by decide +kernel
theorem dJx4a65c_grow_92f84_55 : decode cJx4a65c_grow_92f84 55 = .ok (.dup_x1, 1) := by decide +kernel
theorem dJx4a65c_grow_92f84_56 : decode cJx4a65c_grow_92f84 56 = .ok (.putfield 9, 3) := by decide +kernel
theorem dJx4a65c_grow_92f84_59 : decode cJx4a65c_grow_92f84 59 = .ok (.areturn, 1) := by decide +kernel
theorem dJx4a65c_grow_d5877_0 : decode cJx4a65c_grow_d5877 0 = .ok (.aload_n 0, 1) := by decide +kernel
theorem dJx4a65c_grow_d5877_1 : decode cJx4a65c_grow_d5877 1 = .ok (.aload_n 0, 1) := by decide +kernel
theorem dJx4a65c_grow_d5877_2 : decode cJx4a65c_grow_d5877 2 = .ok (.getfield 48, 3) := by decide +kernel
theorem dJx4a65c_grow_d5877_5 : decode cJx4a65c_grow_d5877 5 = .ok (.iconst 1, 1) := by decide +kernel
theorem dJx4a65c_grow_d5877_6 : decode cJx4a65c_grow_d5877 6 = .ok (.iadd, 1) := by decide +kernel
theorem dJx4a65c_grow_d5877_7 : decode cJx4a65c_grow_d5877 7 = .ok (.invokevirtual 69, 3) := by decide +kernel
theorem dJx4a65c_grow_d5877_10 : decode cJx4a65c_grow_d5877 10 = .ok (.areturn, 1) := by decide +kernel
theorem dJx4a65c_size_8abf5_0 : decode cJx4a65c_size_8abf5 0 = .ok (.aload_n 0, 1) := by decide +kernel
theorem dJx4a65c_size_8abf5_1 : decode cJx4a65c_size_8abf5 1 = .ok (.getfield 48, 3) := by decide +kernel
theorem dJx4a65c_size_8abf5_4 : decode cJx4a65c_size_8abf5 4 = .ok (.ireturn, 1) := by decide +kernel
theorem dJx4a65c_isEmpty_aae02_0 : decode cJx4a65c_isEmpty_aae02 0 = .ok (.aload_n 0, 1) := by decide +kernel
theorem dJx4a65c_isEmpty_aae02_1 : decode cJx4a65c_isEmpty_aae02 1 = .ok (.getfield 48, 3) := by decide +kernel
theorem dJx4a65c_isEmpty_aae02_4 : decode cJx4a65c_isEmpty_aae02 4 = .ok (.ifCond .ne 7, 3) := by decide +kernel
theorem dJx4a65c_isEmpty_aae02_7 : decode cJx4a65c_isEmpty_aae02 7 = .ok (.iconst 1, 1) := by decide +kernel
theorem dJx4a65c_isEmpty_aae02_8 : decode cJx4a65c_isEmpty_aae02 8 = .ok (.goto 4, 3) := by decide +kernel
theorem dJx4a65c_isEmpty_aae02_11 : decode cJx4a65c_isEmpty_aae02 11 = .ok (.iconst 0, 1) := by decide +kernel
theorem dJx4a65c_isEmpty_aae02_12 : decode cJx4a65c_isEmpty_aae02 12 = .ok (.ireturn, 1) := by decide +kernel
theorem dJx4a65c_elementData_915e3_0 : decode cJx4a65c_elementData_915e3 0 = .ok (.aload_n 0, 1) := by decide +kernel
theorem dJx4a65c_elementData_915e3_1 : decode cJx4a65c_elementData_915e3 1 = .ok (.getfield 9, 3) := by decide +kernel
theorem dJx4a65c_elementData_915e3_4 : decode cJx4a65c_elementData_915e3 4 = .ok (.iload_n 1, 1) := by decide +kernel
theorem dJx4a65c_elementData_915e3_5 : decode cJx4a65c_elementData_915e3 5 = .ok (.aaload, 1) := by decide +kernel
theorem dJx4a65c_elementData_915e3_6 : decode cJx4a65c_elementData_915e3 6 = .ok (.areturn, 1) := by decide +kernel
theorem dJx4a65c_get_915e3_0 : decode cJx4a65c_get_915e3 0 = .ok (.iload_n 1, 1) := by decide +kernel
theorem dJx4a65c_get_915e3_1 : decode cJx4a65c_get_915e3 1 = .ok (.aload_n 0, 1) := by decide +kernel
theorem dJx4a65c_get_915e3_2 : decode cJx4a65c_get_915e3 2 = .ok (.getfield 48, 3) := by decide +kernel
theorem dJx4a65c_get_915e3_5 : decode cJx4a65c_get_915e3 5 = .ok (.invokestatic 118, 3) := by decide +kernel
theorem dJx4a65c_get_915e3_8 : decode cJx4a65c_get_915e3 8 = .ok (.pop, 1) := by decide +kernel
theorem dJx4a65c_get_915e3_9 : decode cJx4a65c_get_915e3 9 = .ok (.aload_n 0, 1) := by decide +kernel
theorem dJx4a65c_get_915e3_10 : decode cJx4a65c_get_915e3 10 = .ok (.iload_n 1, 1) := by decide +kernel
theorem dJx4a65c_get_915e3_11 : decode cJx4a65c_get_915e3 11 = .ok (.invokevirtual 123, 3) := by decide +kernel
theorem dJx4a65c_get_915e3_14 : decode cJx4a65c_get_915e3 14 = .ok (.areturn, 1) := by decide +kernel
theorem dJx4a65c_add_72be8_0 : decode cJx4a65c_add_72be8 0 = .ok (.iload_n 3, 1) := by decide +kernel
theorem dJx4a65c_add_72be8_1 : decode cJx4a65c_add_72be8 1 = .ok (.aload_n 2, 1) := by decide +kernel
theorem dJx4a65c_add_72be8_2 : decode cJx4a65c_add_72be8 2 = .ok (.arraylength, 1) := by decide +kernel
theorem dJx4a65c_add_72be8_3 : decode cJx4a65c_add_72be8 3 = .ok (.if_icmp .ne 8, 3) := by decide +kernel
theorem dJx4a65c_add_72be8_6 : decode cJx4a65c_add_72be8 6 = .ok (.aload_n 0, 1) := by decide +kernel
theorem dJx4a65c_add_72be8_7 : decode cJx4a65c_add_72be8 7 = .ok (.invokevirtual 129, 3) := by decide +kernel
theorem dJx4a65c_add_72be8_10 : decode cJx4a65c_add_72be8 10 = .ok (.astore_n 2, 1) := by decide +kernel
theorem dJx4a65c_add_72be8_11 : decode cJx4a65c_add_72be8 11 = .ok (.aload_n 2, 1) := by decide +kernel
theorem dJx4a65c_add_72be8_12 : decode cJx4a65c_add_72be8 12 = .ok (.iload_n 3, 1) := by decide +kernel
theorem dJx4a65c_add_72be8_13 : decode cJx4a65c_add_72be8 13 = .ok (.aload_n 1, 1) := by decide +kernel
theorem dJx4a65c_add_72be8_14 : decode cJx4a65c_add_72be8 14 = .ok (.aastore, 1) := by decide +kernel
theorem dJx4a65c_add_72be8_15 : decode cJx4a65c_add_72be8 15 = .ok (.aload_n 0, 1) := by decide +kernel
theorem dJx4a65c_add_72be8_16 : decode cJx4a65c_add_72be8 16 = .ok (.iload_n 3, 1) := by decide +kernel
theorem dJx4a65c_add_72be8_17 : decode cJx4a65c_add_72be8 17 = .ok (.iconst 1, 1) := by decide +kernel
theorem dJx4a65c_add_72be8_18 : decode cJx4a65c_add_72be8 18 = .ok (.iadd, 1) := by decide +kernel
theorem dJx4a65c_add_72be8_19 : decode cJx4a65c_add_72be8 19 = .ok (.putfield 48, 3) := by decide +kernel
theorem dJx4a65c_add_72be8_22 : decode cJx4a65c_add_72be8 22 = .ok (.return_, 1) := by decide +kernel
theorem dJx4a65c_add_9ea2d_0 : decode cJx4a65c_add_9ea2d 0 = .ok (.aload_n 0, 1) := by decide +kernel
theorem dJx4a65c_add_9ea2d_1 : decode cJx4a65c_add_9ea2d 1 = .ok (.dup, 1) := by decide +kernel
theorem dJx4a65c_add_9ea2d_2 : decode cJx4a65c_add_9ea2d 2 = .ok (.getfield 63, 3) := by decide +kernel
theorem dJx4a65c_add_9ea2d_5 : decode cJx4a65c_add_9ea2d 5 = .ok (.iconst 1, 1) := by decide +kernel
theorem dJx4a65c_add_9ea2d_6 : decode cJx4a65c_add_9ea2d 6 = .ok (.iadd, 1) := by decide +kernel
theorem dJx4a65c_add_9ea2d_7 : decode cJx4a65c_add_9ea2d 7 = .ok (.putfield 63, 3) := by decide +kernel
theorem dJx4a65c_add_9ea2d_10 : decode cJx4a65c_add_9ea2d 10 = .ok (.aload_n 0, 1) := by decide +kernel
theorem dJx4a65c_add_9ea2d_11 : decode cJx4a65c_add_9ea2d 11 = .ok (.aload_n 1, 1) := by decide +kernel
theorem dJx4a65c_add_9ea2d_12 : decode cJx4a65c_add_9ea2d 12 = .ok (.aload_n 0, 1) := by decide +kernel
theorem dJx4a65c_add_9ea2d_13 : decode cJx4a65c_add_9ea2d 13 = .ok (.getfield 9, 3) := by decide +kernel
theorem dJx4a65c_add_9ea2d_16 : decode cJx4a65c_add_9ea2d 16 = .ok (.aload_n 0, 1) := by decide +kernel
theorem dJx4a65c_add_9ea2d_17 : decode cJx4a65c_add_9ea2d 17 = .ok (.getfield 48, 3) := by decide +kernel
theorem dJx4a65c_add_9ea2d_20 : decode cJx4a65c_add_9ea2d 20 = .ok (.invokevirtual 131, 3) := by decide +kernel
theorem dJx4a65c_add_9ea2d_23 : decode cJx4a65c_add_9ea2d 23 = .ok (.iconst 1, 1) := by decide +kernel
theorem dJx4a65c_add_9ea2d_24 : decode cJx4a65c_add_9ea2d 24 = .ok (.ireturn, 1) := by decide +kernel
theorem dJx4a65c_remove_915e3_0 : decode cJx4a65c_remove_915e3 0 = .ok (.iload_n 1, 1) := by decide +kernel
theorem dJx4a65c_remove_915e3_1 : decode cJx4a65c_remove_915e3 1 = .ok (.aload_n 0, 1) := by decide +kernel
theorem dJx4a65c_remove_915e3_2 : decode cJx4a65c_remove_915e3 2 = .ok (.getfield 48, 3) := by decide +kernel
theorem dJx4a65c_remove_915e3_5 : decode cJx4a65c_remove_915e3 5 = .ok (.invokestatic 118, 3) := by decide +kernel
theorem dJx4a65c_remove_915e3_8 : decode cJx4a65c_remove_915e3 8 = .ok (.pop, 1) := by decide +kernel
theorem dJx4a65c_remove_915e3_9 : decode cJx4a65c_remove_915e3 9 = .ok (.aload_n 0, 1) := by decide +kernel
theorem dJx4a65c_remove_915e3_10 : decode cJx4a65c_remove_915e3 10 = .ok (.getfield 9, 3) := by decide +kernel
theorem dJx4a65c_remove_915e3_13 : decode cJx4a65c_remove_915e3 13 = .ok (.astore_n 2, 1) := by decide +kernel
theorem dJx4a65c_remove_915e3_14 : decode cJx4a65c_remove_915e3 14 = .ok (.aload_n 2, 1) := by decide +kernel
theorem dJx4a65c_remove_915e3_15 : decode cJx4a65c_remove_915e3 15 = .ok (.iload_n 1, 1) := by decide +kernel
theorem dJx4a65c_remove_915e3_16 : decode cJx4a65c_remove_915e3 16 = .ok (.aaload, 1) := by decide +kernel
theorem dJx4a65c_remove_915e3_17 : decode cJx4a65c_remove_915e3 17 = .ok (.astore_n 3, 1) := by decide +kernel
theorem dJx4a65c_remove_915e3_18 : decode cJx4a65c_remove_915e3 18 = .ok (.aload_n 0, 1) := by decide +kernel
theorem dJx4a65c_remove_915e3_19 : decode cJx4a65c_remove_915e3 19 = .ok (.aload_n 2, 1) := by decide +kernel
theorem dJx4a65c_remove_915e3_20 : decode cJx4a65c_remove_915e3 20 = .ok (.iload_n 1, 1) := by decide +kernel
theorem dJx4a65c_remove_915e3_21 : decode cJx4a65c_remove_915e3 21 = .ok (.invokevirtual 144, 3) := by decide +kernel
theorem dJx4a65c_remove_915e3_24 : decode cJx4a65c_remove_915e3 24 = .ok (.aload_n 3, 1) := by decide +kernel
theorem dJx4a65c_remove_915e3_25 : decode cJx4a65c_remove_915e3 25 = .ok (.areturn, 1) := by decide +kernel
theorem dJx4a65c_fastRemove_b59b0_0 : decode cJx4a65c_fastRemove_b59b0 0 = .ok (.aload_n 0, 1) := by decide +kernel
theorem dJx4a65c_fastRemove_b59b0_1 : decode cJx4a65c_fastRemove_b59b0 1 = .ok (.dup, 1) := by decide +kernel
theorem dJx4a65c_fastRemove_b59b0_2 : decode cJx4a65c_fastRemove_b59b0 2 = .ok (.getfield 63, 3) := by decide +kernel
theorem dJx4a65c_fastRemove_b59b0_5 : decode cJx4a65c_fastRemove_b59b0 5 = .ok (.iconst 1, 1) := by decide +kernel
theorem dJx4a65c_fastRemove_b59b0_6 : decode cJx4a65c_fastRemove_b59b0 6 = .ok (.iadd, 1) := by decide +kernel
theorem dJx4a65c_fastRemove_b59b0_7 : decode cJx4a65c_fastRemove_b59b0 7 = .ok (.putfield 63, 3) := by decide +kernel
theorem dJx4a65c_fastRemove_b59b0_10 : decode cJx4a65c_fastRemove_b59b0 10 = .ok (.aload_n 0, 1) := by decide +kernel
theorem dJx4a65c_fastRemove_b59b0_11 : decode cJx4a65c_fastRemove_b59b0 11 = .ok (.getfield 48, 3) := by decide +kernel
theorem dJx4a65c_fastRemove_b59b0_14 : decode cJx4a65c_fastRemove_b59b0 14 = .ok (.iconst 1, 1) := by decide +kernel
theorem dJx4a65c_fastRemove_b59b0_15 : decode cJx4a65c_fastRemove_b59b0 15 = .ok (.isub, 1) := by decide +kernel
theorem dJx4a65c_fastRemove_b59b0_16 : decode cJx4a65c_fastRemove_b59b0 16 = .ok (.dup, 1) := by decide +kernel
theorem dJx4a65c_fastRemove_b59b0_17 : decode cJx4a65c_fastRemove_b59b0 17 = .ok (.istore_n 3, 1) := by decide +kernel
theorem dJx4a65c_fastRemove_b59b0_18 : decode cJx4a65c_fastRemove_b59b0 18 = .ok (.iload_n 2, 1) := by decide +kernel
theorem dJx4a65c_fastRemove_b59b0_19 : decode cJx4a65c_fastRemove_b59b0 19 = .ok (.if_icmp .le 15, 3) := by decide +kernel
theorem dJx4a65c_fastRemove_b59b0_22 : decode cJx4a65c_fastRemove_b59b0 22 = .ok (.aload_n 1, 1) := by decide +kernel
theorem dJx4a65c_fastRemove_b59b0_23 : decode cJx4a65c_fastRemove_b59b0 23 = .ok (.iload_n 2, 1) := by decide +kernel
theorem dJx4a65c_fastRemove_b59b0_24 : decode cJx4a65c_fastRemove_b59b0 24 = .ok (.iconst 1, 1) := by decide +kernel
theorem dJx4a65c_fastRemove_b59b0_25 : decode cJx4a65c_fastRemove_b59b0 25 = .ok (.iadd, 1) := by decide +kernel
theorem dJx4a65c_fastRemove_b59b0_26 : decode cJx4a65c_fastRemove_b59b0 26 = .ok (.aload_n 1, 1) := by decide +kernel
theorem dJx4a65c_fastRemove_b59b0_27 : decode cJx4a65c_fastRemove_b59b0 27 = .ok (.iload_n 2, 1) := by decide +kernel
theorem dJx4a65c_fastRemove_b59b0_28 : decode cJx4a65c_fastRemove_b59b0 28 = .ok (.iload_n 3, 1) := by decide +kernel
theorem dJx4a65c_fastRemove_b59b0_29 : decode cJx4a65c_fastRemove_b59b0 29 = .ok (.iload_n 2, 1) := by decide +kernel
theorem dJx4a65c_fastRemove_b59b0_30 : decode cJx4a65c_fastRemove_b59b0 30 = .ok (.isub, 1) := by decide +kernel
theorem dJx4a65c_fastRemove_b59b0_31 : decode cJx4a65c_fastRemove_b59b0 31 = .ok (.invokestatic 112, 3) := by decide +kernel
theorem dJx4a65c_fastRemove_b59b0_34 : decode cJx4a65c_fastRemove_b59b0 34 = .ok (.aload_n 1, 1) := by decide +kernel
theorem dJx4a65c_fastRemove_b59b0_35 : decode cJx4a65c_fastRemove_b59b0 35 = .ok (.aload_n 0, 1) := by decide +kernel
theorem dJx4a65c_fastRemove_b59b0_36 : decode cJx4a65c_fastRemove_b59b0 36 = .ok (.iload_n 3, 1) := by decide +kernel
theorem dJx4a65c_fastRemove_b59b0_37 : decode cJx4a65c_fastRemove_b59b0 37 = .ok (.dup_x1, 1) := by decide +kernel
theorem dJx4a65c_fastRemove_b59b0_38 : decode cJx4a65c_fastRemove_b59b0 38 = .ok (.putfield 48, 3) := by decide +kernel
theorem dJx4a65c_fastRemove_b59b0_41 : decode cJx4a65c_fastRemove_b59b0 41 = .ok (.aconst_null, 1) := by decide +kernel
theorem dJx4a65c_fastRemove_b59b0_42 : decode cJx4a65c_fastRemove_b59b0 42 = .ok (.aastore, 1) := by decide +kernel
theorem dJx4a65c_fastRemove_b59b0_43 : decode cJx4a65c_fastRemove_b59b0 43 = .ok (.return_, 1) := by decide +kernel
theorem dJ7_copyOf_1904c_0 : decode cJ7_copyOf_1904c 0 = .ok (.aload_n 0, 1) := by decide +kernel
theorem dJ7_copyOf_1904c_1 : decode cJ7_copyOf_1904c 1 = .ok (.iload_n 1, 1) := by decide +kernel
theorem dJ7_copyOf_1904c_2 : decode cJ7_copyOf_1904c 2 = .ok (.aload_n 0, 1) := by decide +kernel
theorem dJ7_copyOf_1904c_3 : decode cJ7_copyOf_1904c 3 = .ok (.invokevirtual 86, 3) := by decide +kernel
theorem dJ7_copyOf_1904c_6 : decode cJ7_copyOf_1904c 6 = .ok (.invokestatic 300, 3) := by decide +kernel
theorem dJ7_copyOf_1904c_9 : decode cJ7_copyOf_1904c 9 = .ok (.areturn, 1) := by decide +kernel
theorem dJ7_copyOf_6403c_0 : decode cJ7_copyOf_6403c 0 = .ok (.aload_n 2, 1) := by decide +kernel
theorem dJ7_copyOf_6403c_1 : decode cJ7_copyOf_6403c 1 = .ok (.ldc 110, 2) := by decide +kernel
theorem dJ7_copyOf_6403c_3 : decode cJ7_copyOf_6403c 3 = .ok (.if_acmp .ne 10, 3) := by decide +kernel
theorem dJ7_copyOf_6403c_6 : decode cJ7_copyOf_6403c 6 = .ok (.iload_n 1, 1) := by decide +kernel
theorem dJ7_copyOf_6403c_7 : decode cJ7_copyOf_6403c 7 = .ok (.anewarray 2, 3) := by decide +kernel
theorem dJ7_copyOf_6403c_10 : decode cJ7_copyOf_6403c 10 = .ok (.goto 14, 3) := by decide +kernel
theorem dJ7_copyOf_6403c_13 : decode cJ7_copyOf_6403c 13 = .ok (.aload_n 2, 1) := by decide +kernel
theorem dJ7_copyOf_6403c_14 : decode cJ7_copyOf_6403c 14 = .ok (.invokevirtual 90, 3) := by decide +kernel
theorem dJ7_copyOf_6403c_17 : decode cJ7_copyOf_6403c 17 = .ok (.iload_n 1, 1) := by decide +kernel
theorem dJ7_copyOf_6403c_18 : decode cJ7_copyOf_6403c 18 = .ok (.invokestatic 95, 3) := by decide +kernel
theorem dJ7_copyOf_6403c_21 : decode cJ7_copyOf_6403c 21 = .ok (.checkcast 110, 3) := by decide +kernel
theorem dJ7_copyOf_6403c_24 : decode cJ7_copyOf_6403c 24 = .ok (.astore_n 3, 1) := by decide +kernel
theorem dJ7_copyOf_6403c_25 : decode cJ7_copyOf_6403c 25 = .ok (.aload_n 0, 1) := by decide +kernel
theorem dJ7_copyOf_6403c_26 : decode cJ7_copyOf_6403c 26 = .ok (.iconst 0, 1) := by decide +kernel
theorem dJ7_copyOf_6403c_27 : decode cJ7_copyOf_6403c 27 = .ok (.aload_n 3, 1) := by decide +kernel
theorem dJ7_copyOf_6403c_28 : decode cJ7_copyOf_6403c 28 = .ok (.iconst 0, 1) := by decide +kernel
theorem dJ7_copyOf_6403c_29 : decode cJ7_copyOf_6403c 29 = .ok (.aload_n 0, 1) := by decide +kernel
theorem dJ7_copyOf_6403c_30 : decode cJ7_copyOf_6403c 30 = .ok (.arraylength, 1) := by decide +kernel
theorem dJ7_copyOf_6403c_31 : decode cJ7_copyOf_6403c 31 = .ok (.iload_n 1, 1) := by decide +kernel
theorem dJ7_copyOf_6403c_32 : decode cJ7_copyOf_6403c 32 = .ok (.invokestatic 304, 3) := by decide +kernel
theorem dJ7_copyOf_6403c_35 : decode cJ7_copyOf_6403c 35 = .ok (.invokestatic 150, 3) := by decide +kernel
theorem dJ7_copyOf_6403c_38 : decode cJ7_copyOf_6403c 38 = .ok (.aload_n 3, 1) := by decide +kernel
theorem dJ7_copyOf_6403c_39 : decode cJ7_copyOf_6403c 39 = .ok (.areturn, 1) := by decide +kernel
theorem dJ15_checkIndex_7cf53_0 : decode cJ15_checkIndex_7cf53 0 = .ok (.iload_n 0, 1) := by decide +kernel
theorem dJ15_checkIndex_7cf53_1 : decode cJ15_checkIndex_7cf53 1 = .ok (.iload_n 1, 1) := by decide +kernel
theorem dJ15_checkIndex_7cf53_2 : decode cJ15_checkIndex_7cf53 2 = .ok (.aconst_null, 1) := by decide +kernel
theorem dJ15_checkIndex_7cf53_3 : decode cJ15_checkIndex_7cf53 3 = .ok (.invokestatic 105, 3) := by decide +kernel
theorem dJ15_checkIndex_7cf53_6 : decode cJ15_checkIndex_7cf53 6 = .ok (.ireturn, 1) := by decide +kernel
theorem dJ8_newLength_cabcc_0 : decode cJ8_newLength_cabcc 0 = .ok (.iload_n 0, 1) := by decide +kernel
theorem dJ8_newLength_cabcc_1 : decode cJ8_newLength_cabcc 1 = .ok (.iload_n 1, 1) := by decide +kernel
theorem dJ8_newLength_cabcc_2 : decode cJ8_newLength_cabcc 2 = .ok (.iload_n 2, 1) := by decide +kernel
theorem dJ8_newLength_cabcc_3 : decode cJ8_newLength_cabcc 3 = .ok (.invokestatic 194, 3) := by decide +kernel
theorem dJ8_newLength_cabcc_6 : decode cJ8_newLength_cabcc 6 = .ok (.iadd, 1) := by decide +kernel
theorem dJ8_newLength_cabcc_7 : decode cJ8_newLength_cabcc 7 = .ok (.istore_n 3, 1) := by decide +kernel
theorem dJ8_newLength_cabcc_8 : decode cJ8_newLength_cabcc 8 = .ok (.iconst 0, 1) := by decide +kernel
theorem dJ8_newLength_cabcc_9 : decode cJ8_newLength_cabcc 9 = .ok (.iload_n 3, 1) := by decide +kernel
theorem dJ8_newLength_cabcc_10 : decode cJ8_newLength_cabcc 10 = .ok (.if_icmp .ge 11, 3) := by decide +kernel
theorem dJ8_newLength_cabcc_13 : decode cJ8_newLength_cabcc 13 = .ok (.iload_n 3, 1) := by decide +kernel
theorem dJ8_newLength_cabcc_14 : decode cJ8_newLength_cabcc 14 = .ok (.ldc 200, 2) := by decide +kernel
theorem dJ8_newLength_cabcc_16 : decode cJ8_newLength_cabcc 16 = .ok (.if_icmp .gt 5, 3) := by decide +kernel
theorem dJ8_newLength_cabcc_19 : decode cJ8_newLength_cabcc 19 = .ok (.iload_n 3, 1) := by decide +kernel
theorem dJ8_newLength_cabcc_20 : decode cJ8_newLength_cabcc 20 = .ok (.ireturn, 1) := by decide +kernel
theorem dJ8_newLength_cabcc_21 : decode cJ8_newLength_cabcc 21 = .ok (.iload_n 0, 1) := by decide +kernel
theorem dJ8_newLength_cabcc_22 : decode cJ8_newLength_cabcc 22 = .ok (.iload_n 1, 1) := by decide +kernel
theorem dJ8_newLength_cabcc_23 : decode cJ8_newLength_cabcc 23 = .ok (.invokestatic 201, 3) := by decide +kernel
theorem dJ8_newLength_cabcc_26 : decode cJ8_newLength_cabcc 26 = .ok (.ireturn, 1) := by decide +kernel
theorem dJ8_hugeLength_7cf53_0 : decode cJ8_hugeLength_7cf53 0 = .ok (.iload_n 0, 1) := by decide +kernel
theorem dJ8_hugeLength_7cf53_1 : decode cJ8_hugeLength_7cf53 1 = .ok (.iload_n 1, 1) := by decide +kernel
theorem dJ8_hugeLength_7cf53_2 : decode cJ8_hugeLength_7cf53 2 = .ok (.iadd, 1) := by decide +kernel
theorem dJ8_hugeLength_7cf53_3 : decode cJ8_hugeLength_7cf53 3 = .ok (.istore_n 2, 1) := by decide +kernel
theorem dJ8_hugeLength_7cf53_4 : decode cJ8_hugeLength_7cf53 4 = .ok (.iload_n 2, 1) := by decide +kernel
theorem dJ8_hugeLength_7cf53_5 : decode cJ8_hugeLength_7cf53 5 = .ok (.ifCond .ge 44, 3) := by decide +kernel
theorem dJ8_hugeLength_7cf53_8 : decode cJ8_hugeLength_7cf53 8 = .ok (.new 204, 3) := by decide +kernel
theorem dJ8_hugeLength_7cf53_11 : decode cJ8_hugeLength_7cf53 11 = .ok (.dup, 1) := by decide +kernel
theorem dJ8_hugeLength_7cf53_12 : decode cJ8_hugeLength_7cf53 12 = .ok (.new 89, 3) := by decide +kernel
theorem dJ8_hugeLength_7cf53_15 : decode cJ8_hugeLength_7cf53 15 = .ok (.dup, 1) := by decide +kernel
theorem dJ8_hugeLength_7cf53_16 : decode cJ8_hugeLength_7cf53 16 = .ok (.invokespecial 91, 3) := by decide +kernel
theorem dJ8_hugeLength_7cf53_19 : decode cJ8_hugeLength_7cf53 19 = .ok (.ldc 206, 2) := by decide +kernel
theorem dJ8_hugeLength_7cf53_21 : decode cJ8_hugeLength_7cf53 21 = .ok (.invokevirtual 94, 3) := by decide +kernel
theorem dJ8_hugeLength_7cf53_24 : decode cJ8_hugeLength_7cf53 24 = .ok (.iload_n 0, 1) := by decide +kernel
theorem dJ8_hugeLength_7cf53_25 : decode cJ8_hugeLength_7cf53 25 = .ok (.invokevirtual 98, 3) := by decide +kernel
theorem dJ8_hugeLength_7cf53_28 : decode cJ8_hugeLength_7cf53 28 = .ok (.ldc 208, 2) := by decide +kernel
theorem dJ8_hugeLength_7cf53_30 : decode cJ8_hugeLength_7cf53 30 = .ok (.invokevirtual 94, 3) := by decide +kernel
theorem dJ8_hugeLength_7cf53_33 : decode cJ8_hugeLength_7cf53 33 = .ok (.iload_n 1, 1) := by decide +kernel
theorem dJ8_hugeLength_7cf53_34 : decode cJ8_hugeLength_7cf53 34 = .ok (.invokevirtual 98, 3) := by decide +kernel
theorem dJ8_hugeLength_7cf53_37 : decode cJ8_hugeLength_7cf53 37 = .ok (.ldc 210, 2) := by decide +kernel
theorem dJ8_hugeLength_7cf53_39 : decode cJ8_hugeLength_7cf53 39 = .ok (.invokevirtual 94, 3) := by decide +kernel
theorem dJ8_hugeLength_7cf53_42 : decode cJ8_hugeLength_7cf53 42 = .ok (.invokevirtual 101, 3) := by decide +kernel
theorem dJ8_hugeLength_7cf53_45 : decode cJ8_hugeLength_7cf53 45 = .ok (.invokespecial 212, 3) := by decide +kernel
theorem dJ8_hugeLength_7cf53_48 : decode cJ8_hugeLength_7cf53 48 = .ok (.athrow, 1) := by decide +kernel
theorem dJ8_hugeLength_7cf53_49 : decode cJ8_hugeLength_7cf53 49 = .ok (.iload_n 2, 1) := by decide +kernel
theorem dJ8_hugeLength_7cf53_50 : decode cJ8_hugeLength_7cf53 50 = .ok (.ldc 200, 2) := by decide +kernel
theorem dJ8_hugeLength_7cf53_52 : decode cJ8_hugeLength_7cf53 52 = .ok (.if_icmp .gt 6, 3) := by decide +kernel
theorem dJ8_hugeLength_7cf53_55 : decode cJ8_hugeLength_7cf53 55 = .ok (.ldc 200, 2) := by decide +kernel
theorem dJ8_hugeLength_7cf53_57 : decode cJ8_hugeLength_7cf53 57 = .ok (.ireturn, 1) := by decide +kernel
theorem dJ8_hugeLength_7cf53_58 : decode cJ8_hugeLength_7cf53 58 = .ok (.iload_n 2, 1) := by decide +kernel
theorem dJ8_hugeLength_7cf53_59 : decode cJ8_hugeLength_7cf53 59 = .ok (.ireturn, 1) := by decide +kernel
theorem dJ3_checkIndex_8e157_0 : decode cJ3_checkIndex_8e157 0 = .ok (.iload_n 0, 1) := by decide +kernel
theorem dJ3_checkIndex_8e157_1 : decode cJ3_checkIndex_8e157 1 = .ok (.ifCond .lt 8, 3) := by decide +kernel
theorem dJ3_checkIndex_8e157_4 : decode cJ3_checkIndex_8e157 4 = .ok (.iload_n 0, 1) := by decide +kernel
theorem dJ3_checkIndex_8e157_5 : decode cJ3_checkIndex_8e157 5 = .ok (.iload_n 1, 1) := by decide +kernel
theorem dJ3_checkIndex_8e157_6 : decode cJ3_checkIndex_8e157 6 = .ok (.if_icmp .lt 10, 3) := by decide +kernel
theorem dJ3_checkIndex_8e157_9 : decode cJ3_checkIndex_8e157 9 = .ok (.aload_n 2, 1) := by decide +kernel
theorem dJ3_checkIndex_8e157_10 : decode cJ3_checkIndex_8e157 10 = .ok (.iload_n 0, 1) := by decide +kernel
theorem dJ3_checkIndex_8e157_11 : decode cJ3_checkIndex_8e157 11 = .ok (.iload_n 1, 1) := by decide +kernel
theorem dJ3_checkIndex_8e157_12 : decode cJ3_checkIndex_8e157 12 = .ok (.invokestatic 95, 3) := by decide +kernel
theorem dJ3_checkIndex_8e157_15 : decode cJ3_checkIndex_8e157 15 = .ok (.athrow, 1) := by decide +kernel
theorem dJ3_checkIndex_8e157_16 : decode cJ3_checkIndex_8e157 16 = .ok (.iload_n 0, 1) := by decide +kernel
theorem dJ3_checkIndex_8e157_17 : decode cJ3_checkIndex_8e157 17 = .ok (.ireturn, 1) := by decide +kernel
theorem dX0_init_0 : decode cX0_init 0 = .ok (.aload_n 0, 1) := by decide +kernel
theorem dX0_init_1 : decode cX0_init 1 = .ok (.invokespecial 3, 3) := by decide +kernel
theorem dX0_init_4 : decode cX0_init 4 = .ok (.aload_n 0, 1) := by decide +kernel
theorem dX0_init_5 : decode cX0_init 5 = .ok (.iload_n 1, 1) := by decide +kernel
theorem dX0_init_6 : decode cX0_init 6 = .ok (.putfield 9, 3) := by decide +kernel
theorem dX0_init_9 : decode cX0_init 9 = .ok (.aload_n 0, 1) := by decide +kernel
theorem dX0_init_10 : decode cX0_init 10 = .ok (.aload_n 2, 1) := by decide +kernel
theorem dX0_init_11 : decode cX0_init 11 = .ok (.putfield 15, 3) := by decide +kernel
theorem dX0_init_14 : decode cX0_init 14 = .ok (.aload_n 0, 1) := by decide +kernel
theorem dX0_init_15 : decode cX0_init 15 = .ok (.aload_n 3, 1) := by decide +kernel
theorem dX0_init_16 : decode cX0_init 16 = .ok (.putfield 19, 3) := by decide +kernel
theorem dX0_init_19 : decode cX0_init 19 = .ok (.aload_n 0, 1) := by decide +kernel
theorem dX0_init_20 : decode cX0_init 20 = .ok (.aload 4, 2) := by decide +kernel
theorem dX0_init_22 : decode cX0_init 22 = .ok (.putfield 22, 3) := by decide +kernel
theorem dX0_init_25 : decode cX0_init 25 = .ok (.aload_n 0, 1) := by decide +kernel
theorem dX0_init_26 : decode cX0_init 26 = .ok (.iconst 0, 1) := by decide +kernel
theorem dX0_init_27 : decode cX0_init 27 = .ok (.putfield 26, 3) := by decide +kernel
theorem dX0_init_30 : decode cX0_init 30 = .ok (.aload_n 0, 1) := by decide +kernel
theorem dX0_init_31 : decode cX0_init 31 = .ok (.iconst (-1), 1) := by decide +kernel
theorem dX0_init_32 : decode cX0_init 32 = .ok (.putfield 29, 3) := by decide +kernel
theorem dX0_init_35 : decode cX0_init 35 = .ok (.aload_n 0, 1) := by decide +kernel
theorem dX0_init_36 : decode cX0_init 36 = .ok (.iconst (-1), 1) := by decide +kernel
theorem dX0_init_37 : decode cX0_init 37 = .ok (.putfield 32, 3) := by decide +kernel
theorem dX0_init_40 : decode cX0_init 40 = .ok (.return_, 1) := by decide +kernel
theorem dX1_init_0 : decode cX1_init 0 = .ok (.aload_n 0, 1) := by decide +kernel
theorem dX1_init_1 : decode cX1_init 1 = .ok (.invokespecial 3, 3) := by decide +kernel
theorem dX1_init_4 : decode cX1_init 4 = .ok (.aload_n 0, 1) := by decide +kernel
theorem dX1_init_5 : decode cX1_init 5 = .ok (.iload_n 1, 1) := by decide +kernel
theorem dX1_init_6 : decode cX1_init 6 = .ok (.putfield 9, 3) := by decide +kernel
theorem dX1_init_9 : decode cX1_init 9 = .ok (.aload_n 0, 1) := by decide +kernel
theorem dX1_init_10 : decode cX1_init 10 = .ok (.iload_n 2, 1) := by decide +kernel
theorem dX1_init_11 : decode cX1_init 11 = .ok (.putfield 15, 3) := by decide +kernel
theorem dX1_init_14 : decode cX1_init 14 = .ok (.aload_n 0, 1) := by decide +kernel
theorem dX1_init_15 : decode cX1_init 15 = .ok (.iload_n 3, 1) := by decide +kernel
theorem dX1_init_16 : decode cX1_init 16 = .ok (.putfield 18, 3) := by decide +kernel
theorem dX1_init_19 : decode cX1_init 19 = .ok (.aload_n 0, 1) := by decide +kernel
theorem dX1_init_20 : decode cX1_init 20 = .ok (.iload 4, 2) := by decide +kernel
theorem dX1_init_22 : decode cX1_init 22 = .ok (.putfield 21, 3) := by decide +kernel
theorem dX1_init_25 : decode cX1_init 25 = .ok (.aload_n 0, 1) := by decide +kernel
theorem dX1_init_26 : decode cX1_init 26 = .ok (.iconst 0, 1) := by decide +kernel
theorem dX1_init_27 : decode cX1_init 27 = .ok (.putfield 24, 3) := by decide +kernel
theorem dX1_init_30 : decode cX1_init 30 = .ok (.return_, 1) := by decide +kernel
theorem dX2_init_0 : decode cX2_init 0 = .ok (.aload_n 0, 1) := by decide +kernel
theorem dX2_init_1 : decode cX2_init 1 = .ok (.invokespecial 1, 3) := by decide +kernel
theorem dX2_init_4 : decode cX2_init 4 = .ok (.aload_n 0, 1) := by decide +kernel
theorem dX2_init_5 : decode cX2_init 5 = .ok (.iload_n 1, 1) := by decide +kernel
theorem dX2_init_6 : decode cX2_init 6 = .ok (.putfield 7, 3) := by decide +kernel
theorem dX2_init_9 : decode cX2_init 9 = .ok (.aload_n 0, 1) := by decide +kernel
theorem dX2_init_10 : decode cX2_init 10 = .ok (.iload_n 2, 1) := by decide +kernel
theorem dX2_init_11 : decode cX2_init 11 = .ok (.putfield 13, 3) := by decide +kernel
theorem dX2_init_14 : decode cX2_init 14 = .ok (.return_, 1) := by decide +kernel
theorem dX3_init_0 : decode cX3_init 0 = .ok (.aload_n 0, 1) := by decide +kernel
theorem dX3_init_1 : decode cX3_init 1 = .ok (.invokespecial 1, 3) := by decide +kernel
theorem dX3_init_4 : decode cX3_init 4 = .ok (.aload_n 0, 1) := by decide +kernel
theorem dX3_init_5 : decode cX3_init 5 = .ok (.new 7, 3) := by decide +kernel
theorem dX3_init_8 : decode cX3_init 8 = .ok (.dup, 1) := by decide +kernel
theorem dX3_init_9 : decode cX3_init 9 = .ok (.invokespecial 9, 3) := by decide +kernel
theorem dX3_init_12 : decode cX3_init 12 = .ok (.putfield 10, 3) := by decide +kernel
theorem dX3_init_15 : decode cX3_init 15 = .ok (.aload_n 0, 1) := by decide +kernel
theorem dX3_init_16 : decode cX3_init 16 = .ok (.new 7, 3) := by decide +kernel
theorem dX3_init_19 : decode cX3_init 19 = .ok (.dup, 1) := by decide +kernel
theorem dX3_init_20 : decode cX3_init 20 = .ok (.invokespecial 9, 3) := by decide +kernel
theorem dX3_init_23 : decode cX3_init 23 = .ok (.putfield 16, 3) := by decide +kernel
theorem dX3_init_26 : decode cX3_init 26 = .ok (.aload_n 0, 1) := by decide +kernel
theorem dX3_init_27 : decode cX3_init 27 = .ok (.new 7, 3) := by decide +kernel
theorem dX3_init_30 : decode cX3_init 30 = .ok (.dup, 1) := by decide +kernel
theorem dX3_init_31 : decode cX3_init 31 = .ok (.invokespecial 9, 3) := by decide +kernel
theorem dX3_init_34 : decode cX3_init 34 = .ok (.putfield 19, 3) := by decide +kernel
theorem dX3_init_37 : decode cX3_init 37 = .ok (.aload_n 0, 1) := by decide +kernel
theorem dX3_init_38 : decode cX3_init 38 = .ok (.new 7, 3) := by decide +kernel
theorem dX3_init_41 : decode cX3_init 41 = .ok (.dup, 1) := by decide +kernel
theorem dX3_init_42 : decode cX3_init 42 = .ok (.invokespecial 9, 3) := by decide +kernel
theorem dX3_init_45 : decode cX3_init 45 = .ok (.putfield 22, 3) := by decide +kernel
theorem dX3_init_48 : decode cX3_init 48 = .ok (.aload_n 0, 1) := by decide +kernel
theorem dX3_init_49 : decode cX3_init 49 = .ok (.new 7, 3) := by decide +kernel
theorem dX3_init_52 : decode cX3_init 52 = .ok (.dup, 1) := by decide +kernel
theorem dX3_init_53 : decode cX3_init 53 = .ok (.invokespecial 9, 3) := by decide +kernel
theorem dX3_init_56 : decode cX3_init 56 = .ok (.putfield 25, 3) := by decide +kernel
theorem dX3_init_59 : decode cX3_init 59 = .ok (.aload_n 0, 1) := by decide +kernel
theorem dX3_init_60 : decode cX3_init 60 = .ok (.iconst 2, 1) := by decide +kernel
theorem dX3_init_61 : decode cX3_init 61 = .ok (.newarray .int, 2) := by decide +kernel
theorem dX3_init_63 : decode cX3_init 63 = .ok (.putfield 28, 3) := by decide +kernel
theorem dX3_init_66 : decode cX3_init 66 = .ok (.aload_n 0, 1) := by decide +kernel
theorem dX3_init_67 : decode cX3_init 67 = .ok (.iconst 1, 1) := by decide +kernel
theorem dX3_init_68 : decode cX3_init 68 = .ok (.putfield 32, 3) := by decide +kernel
theorem dX3_init_71 : decode cX3_init 71 = .ok (.aload_n 0, 1) := by decide +kernel
theorem dX3_init_72 : decode cX3_init 72 = .ok (.iconst 0, 1) := by decide +kernel
theorem dX3_init_73 : decode cX3_init 73 = .ok (.putfield 36, 3) := by decide +kernel
theorem dX3_init_76 : decode cX3_init 76 = .ok (.aload_n 0, 1) := by decide +kernel
theorem dX3_init_77 : decode cX3_init 77 = .ok (.iconst 0, 1) := by decide +kernel
theorem dX3_init_78 : decode cX3_init 78 = .ok (.putfield 39, 3) := by decide +kernel
theorem dX3_init_81 : decode cX3_init 81 = .ok (.aload_n 0, 1) := by decide +kernel
theorem dX3_init_82 : decode cX3_init 82 = .ok (.iconst 0, 1) := by decide +kernel
theorem dX3_init_83 : decode cX3_init 83 = .ok (.putfield 42, 3) := by decide +kernel
theorem dX3_init_86 : decode cX3_init 86 = .ok (.aload_n 0, 1) := by decide +kernel
theorem dX3_init_87 : decode cX3_init 87 = .ok (.bipush 10, 2) := by decide +kernel
theorem dX3_init_89 : decode cX3_init 89 = .ok (.putfield 45, 3) := by decide +kernel
theorem dX3_init_92 : decode cX3_init 92 = .ok (.aload_n 0, 1) := by decide +kernel
theorem dX3_init_93 : decode cX3_init 93 = .ok (.sipush 600, 3) := by decide +kernel
theorem dX3_init_96 : decode cX3_init 96 = .ok (.putfield 48, 3) := by decide +kernel
theorem dX3_init_99 : decode cX3_init 99 = .ok (.aload_n 0, 1) := by decide +kernel
theorem dX3_init_100 : decode cX3_init 100 = .ok (.iconst 0, 1) := by decide +kernel
theorem dX3_init_101 : decode cX3_init 101 = .ok (.putfield 51, 3) := by decide +kernel
theorem dX3_init_104 : decode cX3_init 104 = .ok (.return_, 1) := by decide +kernel
theorem dX3_addMember_0 : decode cX3_addMember 0 = .ok (.iload_n 1, 1) := by decide +kernel
theorem dX3_addMember_1 : decode cX3_addMember 1 = .ok (.iconst 0, 1) := by decide +kernel
theorem dX3_addMember_2 : decode cX3_addMember 2 = .ok (.iconst 3, 1) := by decide +kernel
theorem dX3_addMember_3 : decode cX3_addMember 3 = .ok (.invokestatic 54, 3) := by decide +kernel
theorem dX3_addMember_6 : decode cX3_addMember 6 = .ok (.ifCond .ne 13, 3) := by decide +kernel
theorem dX3_addMember_9 : decode cX3_addMember 9 = .ok (.new 58, 3) := by decide +kernel
theorem dX3_addMember_12 : decode cX3_addMember 12 = .ok (.dup, 1) := by decide +kernel
theorem dX3_addMember_13 : decode cX3_addMember 13 = .ok (.ldc 60, 2) := by decide +kernel
theorem dX3_addMember_15 : decode cX3_addMember 15 = .ok (.invokespecial 62, 3) := by decide +kernel
theorem dX3_addMember_18 : decode cX3_addMember 18 = .ok (.athrow, 1) := by decide +kernel
theorem dX3_addMember_19 : decode cX3_addMember 19 = .ok (.aload_n 0, 1) := by decide +kernel
theorem dX3_addMember_20 : decode cX3_addMember 20 = .ok (.getfield 10, 3) := by decide +kernel
theorem dX3_addMember_23 : decode cX3_addMember 23 = .ok (.invokevirtual 65, 3) := by decide +kernel
theorem dX3_addMember_26 : decode cX3_addMember 26 = .ok (.bipush 16, 2) := by decide +kernel
theorem dX3_addMember_28 : decode cX3_addMember 28 = .ok (.if_icmp .lt 13, 3) := by decide +kernel
theorem dX3_addMember_31 : decode cX3_addMember 31 = .ok (.new 69, 3) := by decide +kernel
theorem dX3_addMember_34 : decode cX3_addMember 34 = .ok (.dup, 1) := by decide +kernel
theorem dX3_addMember_35 : decode cX3_addMember 35 = .ok (.ldc 71, 2) := by decide +kernel
theorem dX3_addMember_37 : decode cX3_addMember 37 = .ok (.invokespecial 73, 3) := by decide +kernel
theorem dX3_addMember_40 : decode cX3_addMember 40 = .ok (.athrow, 1) := by decide +kernel
theorem dX3_addMember_41 : decode cX3_addMember 41 = .ok (.aload_n 0, 1) := by decide +kernel
theorem dX3_addMember_42 : decode cX3_addMember 42 = .ok (.getfield 10, 3) := by decide +kernel
theorem dX3_addMember_45 : decode cX3_addMember 45 = .ok (.invokevirtual 65, 3) := by decide +kernel
theorem dX3_addMember_48 : decode cX3_addMember 48 = .ok (.istore_n 2, 1) := by decide +kernel
theorem dX3_addMember_49 : decode cX3_addMember 49 = .ok (.aload_n 0, 1) := by decide +kernel
theorem dX3_addMember_50 : decode cX3_addMember 50 = .ok (.getfield 10, 3) := by decide +kernel
theorem dX3_addMember_53 : decode cX3_addMember 53 = .ok (.new 74, 3) := by decide +kernel
theorem dX3_addMember_56 : decode cX3_addMember 56 = .ok (.dup, 1) := by decide +kernel
theorem dX3_addMember_57 : decode cX3_addMember 57 = .ok (.iload_n 2, 1) := by decide +kernel
theorem dX3_addMember_58 : decode cX3_addMember 58 = .ok (.iload_n 1, 1) := by decide +kernel
theorem dX3_addMember_59 : decode cX3_addMember 59 = .ok (.invokespecial 76, 3) := by decide +kernel
theorem dX3_addMember_62 : decode cX3_addMember 62 = .ok (.invokevirtual 79, 3) := by decide +kernel
theorem dX3_addMember_65 : decode cX3_addMember 65 = .ok (.pop, 1) := by decide +kernel
theorem dX3_addMember_66 : decode cX3_addMember 66 = .ok (.iload_n 2, 1) := by decide +kernel
theorem dX3_addMember_67 : decode cX3_addMember 67 = .ok (.ireturn, 1) := by decide +kernel
theorem dX3_addGlider_0 : decode cX3_addGlider 0 = .ok (.iload_n 1, 1) := by decide +kernel
theorem dX3_addGlider_1 : decode cX3_addGlider 1 = .ok (.iconst 1, 1) := by decide +kernel
theorem dX3_addGlider_2 : decode cX3_addGlider 2 = .ok (.iconst 2, 1) := by decide +kernel
theorem dX3_addGlider_3 : decode cX3_addGlider 3 = .ok (.invokestatic 54, 3) := by decide +kernel
theorem dX3_addGlider_6 : decode cX3_addGlider 6 = .ok (.ifCond .eq 23, 3) := by decide +kernel
theorem dX3_addGlider_9 : decode cX3_addGlider 9 = .ok (.iload_n 2, 1) := by decide +kernel
theorem dX3_addGlider_10 : decode cX3_addGlider 10 = .ok (.iconst 1, 1) := by decide +kernel
theorem dX3_addGlider_11 : decode cX3_addGlider 11 = .ok (.bipush 50, 2) := by decide +kernel
theorem dX3_addGlider_13 : decode cX3_addGlider 13 = .ok (.invokestatic 54, 3) := by decide +kernel
theorem dX3_addGlider_16 : decode cX3_addGlider 16 = .ok (.ifCond .eq 13, 3) := by decide +kernel
theorem dX3_addGlider_19 : decode cX3_addGlider 19 = .ok (.iload_n 3, 1) := by decide +kernel
theorem dX3_addGlider_20 : decode cX3_addGlider 20 = .ok (.iconst 5, 1) := by decide +kernel
theorem dX3_addGlider_21 : decode cX3_addGlider 21 = .ok (.bipush 40, 2) := by decide +kernel
theorem dX3_addGlider_23 : decode cX3_addGlider 23 = .ok (.invokestatic 54, 3) := by decide +kernel
theorem dX3_addGlider_26 : decode cX3_addGlider 26 = .ok (.ifCond .ne 13, 3) := by decide +kernel
theorem dX3_addGlider_29 : decode cX3_addGlider 29 = .ok (.new 58, 3) := by decide +kernel
theorem dX3_addGlider_32 : decode cX3_addGlider 32 = .ok (.dup, 1) := by decide +kernel
theorem dX3_addGlider_33 : decode cX3_addGlider 33 = .ok (.ldc 83, 2) := by decide +kernel
theorem dX3_addGlider_35 : decode cX3_addGlider 35 = .ok (.invokespecial 62, 3) := by decide +kernel
theorem dX3_addGlider_38 : decode cX3_addGlider 38 = .ok (.athrow, 1) := by decide +kernel
theorem dX3_addGlider_39 : decode cX3_addGlider 39 = .ok (.aload_n 0, 1) := by decide +kernel
theorem dX3_addGlider_40 : decode cX3_addGlider 40 = .ok (.getfield 16, 3) := by decide +kernel
theorem dX3_addGlider_43 : decode cX3_addGlider 43 = .ok (.invokevirtual 65, 3) := by decide +kernel
theorem dX3_addGlider_46 : decode cX3_addGlider 46 = .ok (.bipush 8, 2) := by decide +kernel
theorem dX3_addGlider_48 : decode cX3_addGlider 48 = .ok (.if_icmp .lt 13, 3) := by decide +kernel
theorem dX3_addGlider_51 : decode cX3_addGlider 51 = .ok (.new 69, 3) := by decide +kernel
theorem dX3_addGlider_54 : decode cX3_addGlider 54 = .ok (.dup, 1) := by decide +kernel
theorem dX3_addGlider_55 : decode cX3_addGlider 55 = .ok (.ldc 85, 2) := by decide +kernel
theorem dX3_addGlider_57 : decode cX3_addGlider 57 = .ok (.invokespecial 73, 3) := by decide +kernel
theorem dX3_addGlider_60 : decode cX3_addGlider 60 = .ok (.athrow, 1) := by decide +kernel
theorem dX3_addGlider_61 : decode cX3_addGlider 61 = .ok (.aload_n 0, 1) := by decide +kernel
theorem dX3_addGlider_62 : decode cX3_addGlider 62 = .ok (.getfield 16, 3) := by decide +kernel
theorem dX3_addGlider_65 : decode cX3_addGlider 65 = .ok (.invokevirtual 65, 3) := by decide +kernel
theorem dX3_addGlider_68 : decode cX3_addGlider 68 = .ok (.istore 4, 2) := by decide +kernel
theorem dX3_addGlider_70 : decode cX3_addGlider 70 = .ok (.aload_n 0, 1) := by decide +kernel
theorem dX3_addGlider_71 : decode cX3_addGlider 71 = .ok (.getfield 16, 3) := by decide +kernel
theorem dX3_addGlider_74 : decode cX3_addGlider 74 = .ok (.new 87, 3) := by decide +kernel
theorem dX3_addGlider_77 : decode cX3_addGlider 77 = .ok (.dup, 1) := by decide +kernel
theorem dX3_addGlider_78 : decode cX3_addGlider 78 = .ok (.iload 4, 2) := by decide +kernel
theorem dX3_addGlider_80 : decode cX3_addGlider 80 = .ok (.iload_n 1, 1) := by decide +kernel
theorem dX3_addGlider_81 : decode cX3_addGlider 81 = .ok (.iload_n 2, 1) := by decide +kernel
theorem dX3_addGlider_82 : decode cX3_addGlider 82 = .ok (.iload_n 3, 1) := by decide +kernel
theorem dX3_addGlider_83 : decode cX3_addGlider 83 = .ok (.invokespecial 89, 3) := by decide +kernel
theorem dX3_addGlider_86 : decode cX3_addGlider 86 = .ok (.invokevirtual 79, 3) := by decide +kernel
theorem dX3_addGlider_89 : decode cX3_addGlider 89 = .ok (.pop, 1) := by decide +kernel
theorem dX3_addGlider_90 : decode cX3_addGlider 90 = .ok (.iload 4, 2) := by decide +kernel
theorem dX3_addGlider_92 : decode cX3_addGlider 92 = .ok (.ireturn, 1) := by decide +kernel
theorem dX3_setWind_0 : decode cX3_setWind 0 = .ok (.iload_n 1, 1) := by decide +kernel
theorem dX3_setWind_1 : decode cX3_setWind 1 = .ok (.iconst 0, 1) := by decide +kernel
theorem dX3_setWind_2 : decode cX3_setWind 2 = .ok (.bipush 40, 2) := by decide +kernel
theorem dX3_setWind_4 : decode cX3_setWind 4 = .ok (.invokestatic 54, 3) := by decide +kernel
theorem dX3_setWind_7 : decode cX3_setWind 7 = .ok (.ifCond .ne 13, 3) := by decide +kernel
theorem dX3_setWind_10 : decode cX3_setWind 10 = .ok (.new 58, 3) := by decide +kernel
theorem dX3_setWind_13 : decode cX3_setWind 13 = .ok (.dup, 1) := by decide +kernel
theorem dX3_setWind_14 : decode cX3_setWind 14 = .ok (.ldc 92, 2) := by decide +kernel
theorem dX3_setWind_16 : decode cX3_setWind 16 = .ok (.invokespecial 62, 3) := by decide +kernel
theorem dX3_setWind_19 : decode cX3_setWind 19 = .ok (.athrow, 1) := by decide +kernel
theorem dX3_setWind_20 : decode cX3_setWind 20 = .ok (.aload_n 0, 1) := by decide +kernel
theorem dX3_setWind_21 : decode cX3_setWind 21 = .ok (.getfield 45, 3) := by decide +kernel
theorem dX3_setWind_24 : decode cX3_setWind 24 = .ok (.istore_n 2, 1) := by decide +kernel
theorem dX3_setWind_25 : decode cX3_setWind 25 = .ok (.aload_n 0, 1) := by decide +kernel
theorem dX3_setWind_26 : decode cX3_setWind 26 = .ok (.iload_n 1, 1) := by decide +kernel
theorem dX3_setWind_27 : decode cX3_setWind 27 = .ok (.putfield 45, 3) := by decide +kernel
theorem dX3_setWind_30 : decode cX3_setWind 30 = .ok (.iload_n 2, 1) := by decide +kernel
theorem dX3_setWind_31 : decode cX3_setWind 31 = .ok (.ireturn, 1) := by decide +kernel
theorem dX3_setTugs_0 : decode cX3_setTugs 0 = .ok (.iload_n 1, 1) := by decide +kernel
theorem dX3_setTugs_1 : decode cX3_setTugs 1 = .ok (.iconst 0, 1) := by decide +kernel
theorem dX3_setTugs_2 : decode cX3_setTugs 2 = .ok (.iconst 2, 1) := by decide +kernel
theorem dX3_setTugs_3 : decode cX3_setTugs 3 = .ok (.invokestatic 54, 3) := by decide +kernel
theorem dX3_setTugs_6 : decode cX3_setTugs 6 = .ok (.ifCond .ne 13, 3) := by decide +kernel
theorem dX3_setTugs_9 : decode cX3_setTugs 9 = .ok (.new 58, 3) := by decide +kernel
theorem dX3_setTugs_12 : decode cX3_setTugs 12 = .ok (.dup, 1) := by decide +kernel
theorem dX3_setTugs_13 : decode cX3_setTugs 13 = .ok (.ldc 96, 2) := by decide +kernel
theorem dX3_setTugs_15 : decode cX3_setTugs 15 = .ok (.invokespecial 62, 3) := by decide +kernel
theorem dX3_setTugs_18 : decode cX3_setTugs 18 = .ok (.athrow, 1) := by decide +kernel
theorem dX3_setTugs_19 : decode cX3_setTugs 19 = .ok (.aload_n 0, 1) := by decide +kernel
theorem dX3_setTugs_20 : decode cX3_setTugs 20 = .ok (.invokevirtual 98, 3) := by decide +kernel
theorem dX3_setTugs_23 : decode cX3_setTugs 23 = .ok (.iload_n 1, 1) := by decide +kernel
theorem dX3_setTugs_24 : decode cX3_setTugs 24 = .ok (.if_icmp .le 13, 3) := by decide +kernel
theorem dX3_setTugs_27 : decode cX3_setTugs 27 = .ok (.new 69, 3) := by decide +kernel
theorem dX3_setTugs_30 : decode cX3_setTugs 30 = .ok (.dup, 1) := by decide +kernel
theorem dX3_setTugs_31 : decode cX3_setTugs 31 = .ok (.ldc 101, 2) := by decide +kernel
theorem dX3_setTugs_33 : decode cX3_setTugs 33 = .ok (.invokespecial 73, 3) := by decide +kernel
theorem dX3_setTugs_36 : decode cX3_setTugs 36 = .ok (.athrow, 1) := by decide +kernel
theorem dX3_setTugs_37 : decode cX3_setTugs 37 = .ok (.aload_n 0, 1) := by decide +kernel
theorem dX3_setTugs_38 : decode cX3_setTugs 38 = .ok (.iload_n 1, 1) := by decide +kernel
theorem dX3_setTugs_39 : decode cX3_setTugs 39 = .ok (.putfield 32, 3) := by decide +kernel
theorem dX3_setTugs_42 : decode cX3_setTugs 42 = .ok (.aload_n 0, 1) := by decide +kernel
theorem dX3_setTugs_43 : decode cX3_setTugs 43 = .ok (.invokevirtual 103, 3) := by decide +kernel
theorem dX3_setTugs_46 : decode cX3_setTugs 46 = .ok (.ireturn, 1) := by decide +kernel
theorem dX3_member_0 : decode cX3_member 0 = .ok (.aload_n 0, 1) := by decide +kernel
theorem dX3_member_1 : decode cX3_member 1 = .ok (.iload_n 1, 1) := by decide +kernel
theorem dX3_member_2 : decode cX3_member 2 = .ok (.invokevirtual 119, 3) := by decide +kernel
theorem dX3_member_5 : decode cX3_member 5 = .ok (.astore_n 3, 1) := by decide +kernel
theorem dX3_member_6 : decode cX3_member 6 = .ok (.iload_n 2, 1) := by decide +kernel
theorem dX3_member_7 : decode cX3_member 7 = .ok (.iconst 0, 1) := by decide +kernel
theorem dX3_member_8 : decode cX3_member 8 = .ok (.iconst 5, 1) := by decide +kernel
theorem dX3_member_9 : decode cX3_member 9 = .ok (.invokestatic 54, 3) := by decide +kernel
theorem dX3_member_12 : decode cX3_member 12 = .ok (.ifCond .ne 13, 3) := by decide +kernel
theorem dX3_member_15 : decode cX3_member 15 = .ok (.new 135, 3) := by decide +kernel
theorem dX3_member_18 : decode cX3_member 18 = .ok (.dup, 1) := by decide +kernel
theorem dX3_member_19 : decode cX3_member 19 = .ok (.ldc 137, 2) := by decide +kernel
theorem dX3_member_21 : decode cX3_member 21 = .ok (.invokespecial 139, 3) := by decide +kernel
theorem dX3_member_24 : decode cX3_member 24 = .ok (.athrow, 1) := by decide +kernel
theorem dX3_member_25 : decode cX3_member 25 = .ok (.aload_n 3, 1) := by decide +kernel
theorem dX3_member_26 : decode cX3_member 26 = .ok (.iload_n 2, 1) := by decide +kernel
theorem dX3_member_27 : decode cX3_member 27 = .ok (.invokestatic 140, 3) := by decide +kernel
theorem dX3_member_30 : decode cX3_member 30 = .ok (.ireturn, 1) := by decide +kernel
theorem dX3_glider_0 : decode cX3_glider 0 = .ok (.aload_n 0, 1) := by decide +kernel
theorem dX3_glider_1 : decode cX3_glider 1 = .ok (.iload_n 1, 1) := by decide +kernel
theorem dX3_glider_2 : decode cX3_glider 2 = .ok (.invokevirtual 106, 3) := by decide +kernel
theorem dX3_glider_5 : decode cX3_glider 5 = .ok (.astore_n 3, 1) := by decide +kernel
theorem dX3_glider_6 : decode cX3_glider 6 = .ok (.iload_n 2, 1) := by decide +kernel
theorem dX3_glider_7 : decode cX3_glider 7 = .ok (.iconst 0, 1) := by decide +kernel
theorem dX3_glider_8 : decode cX3_glider 8 = .ok (.iconst 4, 1) := by decide +kernel
theorem dX3_glider_9 : decode cX3_glider 9 = .ok (.invokestatic 54, 3) := by decide +kernel
theorem dX3_glider_12 : decode cX3_glider 12 = .ok (.ifCond .ne 13, 3) := by decide +kernel
theorem dX3_glider_15 : decode cX3_glider 15 = .ok (.new 135, 3) := by decide +kernel
theorem dX3_glider_18 : decode cX3_glider 18 = .ok (.dup, 1) := by decide +kernel
theorem dX3_glider_19 : decode cX3_glider 19 = .ok (.ldc 137, 2) := by decide +kernel
theorem dX3_glider_21 : decode cX3_glider 21 = .ok (.invokespecial 139, 3) := by decide +kernel
theorem dX3_glider_24 : decode cX3_glider 24 = .ok (.athrow, 1) := by decide +kernel
theorem dX3_glider_25 : decode cX3_glider 25 = .ok (.aload_n 3, 1) := by decide +kernel
theorem dX3_glider_26 : decode cX3_glider 26 = .ok (.iload_n 2, 1) := by decide +kernel
theorem dX3_glider_27 : decode cX3_glider 27 = .ok (.invokestatic 144, 3) := by decide +kernel
theorem dX3_glider_30 : decode cX3_glider 30 = .ok (.ireturn, 1) := by decide +kernel
theorem dX3_ask_0 : decode cX3_ask 0 = .ok (.aload_n 0, 1) := by decide +kernel
theorem dX3_ask_1 : decode cX3_ask 1 = .ok (.iload_n 1, 1) := by decide +kernel
theorem dX3_ask_2 : decode cX3_ask 2 = .ok (.invokevirtual 119, 3) := by decide +kernel
theorem dX3_ask_5 : decode cX3_ask 5 = .ok (.astore 6, 2) := by decide +kernel
theorem dX3_ask_7 : decode cX3_ask 7 = .ok (.iload_n 2, 1) := by decide +kernel
theorem dX3_ask_8 : decode cX3_ask 8 = .ok (.iconst (-1), 1) := by decide +kernel
theorem dX3_ask_9 : decode cX3_ask 9 = .ok (.if_icmp .ne 7, 3) := by decide +kernel
theorem dX3_ask_12 : decode cX3_ask 12 = .ok (.aconst_null, 1) := by decide +kernel
theorem dX3_ask_13 : decode cX3_ask 13 = .ok (.goto 8, 3) := by decide +kernel
theorem dX3_ask_16 : decode cX3_ask 16 = .ok (.aload_n 0, 1) := by decide +kernel
theorem dX3_ask_17 : decode cX3_ask 17 = .ok (.iload_n 2, 1) := by decide +kernel
theorem dX3_ask_18 : decode cX3_ask 18 = .ok (.invokevirtual 119, 3) := by decide +kernel
theorem dX3_ask_21 : decode cX3_ask 21 = .ok (.astore 7, 2) := by decide +kernel
theorem dX3_ask_23 : decode cX3_ask 23 = .ok (.aload_n 0, 1) := by decide +kernel
theorem dX3_ask_24 : decode cX3_ask 24 = .ok (.iload_n 3, 1) := by decide +kernel
theorem dX3_ask_25 : decode cX3_ask 25 = .ok (.invokevirtual 106, 3) := by decide +kernel
theorem dX3_ask_28 : decode cX3_ask 28 = .ok (.astore 8, 2) := by decide +kernel
theorem dX3_ask_30 : decode cX3_ask 30 = .ok (.iload_n 1, 1) := by decide +kernel
theorem dX3_ask_31 : decode cX3_ask 31 = .ok (.iload_n 2, 1) := by decide +kernel
theorem dX3_ask_32 : decode cX3_ask 32 = .ok (.if_icmp .eq 23, 3) := by decide +kernel
theorem dX3_ask_35 : decode cX3_ask 35 = .ok (.iload 4, 2) := by decide +kernel
theorem dX3_ask_37 : decode cX3_ask 37 = .ok (.invokestatic 148, 3) := by decide +kernel
theorem dX3_ask_40 : decode cX3_ask 40 = .ok (.ifCond .eq 15, 3) := by decide +kernel
theorem dX3_ask_43 : decode cX3_ask 43 = .ok (.iload 5, 2) := by decide +kernel
theorem dX3_ask_45 : decode cX3_ask 45 = .ok (.iconst 2, 1) := by decide +kernel
theorem dX3_ask_46 : decode cX3_ask 46 = .ok (.sipush 300, 3) := by decide +kernel
theorem dX3_ask_49 : decode cX3_ask 49 = .ok (.invokestatic 54, 3) := by decide +kernel
theorem dX3_ask_52 : decode cX3_ask 52 = .ok (.ifCond .ne 13, 3) := by decide +kernel
theorem dX3_ask_55 : decode cX3_ask 55 = .ok (.new 58, 3) := by decide +kernel
theorem dX3_ask_58 : decode cX3_ask 58 = .ok (.dup, 1) := by decide +kernel
theorem dX3_ask_59 : decode cX3_ask 59 = .ok (.ldc 152, 2) := by decide +kernel
theorem dX3_ask_61 : decode cX3_ask 61 = .ok (.invokespecial 62, 3) := by decide +kernel
theorem dX3_ask_64 : decode cX3_ask 64 = .ok (.athrow, 1) := by decide +kernel
theorem dX3_ask_65 : decode cX3_ask 65 = .ok (.aload_n 0, 1) := by decide +kernel
theorem dX3_ask_66 : decode cX3_ask 66 = .ok (.getfield 22, 3) := by decide +kernel
theorem dX3_ask_69 : decode cX3_ask 69 = .ok (.invokevirtual 65, 3) := by decide +kernel
theorem dX3_ask_72 : decode cX3_ask 72 = .ok (.bipush 30, 2) := by decide +kernel
theorem dX3_ask_74 : decode cX3_ask 74 = .ok (.if_icmp .ge 15, 3) := by decide +kernel
theorem dX3_ask_77 : decode cX3_ask 77 = .ok (.aload_n 0, 1) := by decide +kernel
theorem dX3_ask_78 : decode cX3_ask 78 = .ok (.getfield 19, 3) := by decide +kernel
theorem dX3_ask_81 : decode cX3_ask 81 = .ok (.invokevirtual 65, 3) := by decide +kernel
theorem dX3_ask_84 : decode cX3_ask 84 = .ok (.bipush 100, 2) := by decide +kernel
theorem dX3_ask_86 : decode cX3_ask 86 = .ok (.if_icmp .lt 13, 3) := by decide +kernel
theorem dX3_ask_89 : decode cX3_ask 89 = .ok (.new 69, 3) := by decide +kernel
theorem dX3_ask_92 : decode cX3_ask 92 = .ok (.dup, 1) := by decide +kernel
theorem dX3_ask_93 : decode cX3_ask 93 = .ok (.ldc 154, 2) := by decide +kernel
theorem dX3_ask_95 : decode cX3_ask 95 = .ok (.invokespecial 73, 3) := by decide +kernel
theorem dX3_ask_98 : decode cX3_ask 98 = .ok (.athrow, 1) := by decide +kernel
theorem dX3_ask_99 : decode cX3_ask 99 = .ok (.new 156, 3) := by decide +kernel
theorem dX3_ask_102 : decode cX3_ask 102 = .ok (.dup, 1) := by decide +kernel
theorem dX3_ask_103 : decode cX3_ask 103 = .ok (.aload_n 0, 1) := by decide +kernel
theorem dX3_ask_104 : decode cX3_ask 104 = .ok (.getfield 19, 3) := by decide +kernel
theorem dX3_ask_107 : decode cX3_ask 107 = .ok (.invokevirtual 65, 3) := by decide +kernel
theorem dX3_ask_110 : decode cX3_ask 110 = .ok (.aload 6, 2) := by decide +kernel
theorem dX3_ask_112 : decode cX3_ask 112 = .ok (.aload 7, 2) := by decide +kernel
theorem dX3_ask_114 : decode cX3_ask 114 = .ok (.aload 8, 2) := by decide +kernel
theorem dX3_ask_116 : decode cX3_ask 116 = .ok (.invokespecial 158, 3) := by decide +kernel
theorem dX3_ask_119 : decode cX3_ask 119 = .ok (.astore 9, 2) := by decide +kernel
theorem dX3_ask_121 : decode cX3_ask 121 = .ok (.aload 9, 2) := by decide +kernel
theorem dX3_ask_123 : decode cX3_ask 123 = .ok (.iload 4, 2) := by decide +kernel
theorem dX3_ask_125 : decode cX3_ask 125 = .ok (.putfield 161, 3) := by decide +kernel
theorem dX3_ask_128 : decode cX3_ask 128 = .ok (.aload 9, 2) := by decide +kernel
theorem dX3_ask_130 : decode cX3_ask 130 = .ok (.iload 5, 2) := by decide +kernel
theorem dX3_ask_132 : decode cX3_ask 132 = .ok (.putfield 164, 3) := by decide +kernel
theorem dX3_ask_135 : decode cX3_ask 135 = .ok (.aload 9, 2) := by decide +kernel
theorem dX3_ask_137 : decode cX3_ask 137 = .ok (.aload_n 0, 1) := by decide +kernel
theorem dX3_ask_138 : decode cX3_ask 138 = .ok (.getfield 42, 3) := by decide +kernel
theorem dX3_ask_141 : decode cX3_ask 141 = .ok (.putfield 167, 3) := by decide +kernel
theorem dX3_ask_144 : decode cX3_ask 144 = .ok (.aload_n 0, 1) := by decide +kernel
theorem dX3_ask_145 : decode cX3_ask 145 = .ok (.getfield 19, 3) := by decide +kernel
theorem dX3_ask_148 : decode cX3_ask 148 = .ok (.aload 9, 2) := by decide +kernel
theorem dX3_ask_150 : decode cX3_ask 150 = .ok (.invokevirtual 79, 3) := by decide +kernel
theorem dX3_ask_153 : decode cX3_ask 153 = .ok (.pop, 1) := by decide +kernel
theorem dX3_ask_154 : decode cX3_ask 154 = .ok (.aload_n 0, 1) := by decide +kernel
theorem dX3_ask_155 : decode cX3_ask 155 = .ok (.getfield 22, 3) := by decide +kernel
theorem dX3_ask_158 : decode cX3_ask 158 = .ok (.aload 9, 2) := by decide +kernel
theorem dX3_ask_160 : decode cX3_ask 160 = .ok (.invokevirtual 79, 3) := by decide +kernel
theorem dX3_ask_163 : decode cX3_ask 163 = .ok (.pop, 1) := by decide +kernel
theorem dX3_ask_164 : decode cX3_ask 164 = .ok (.aload 9, 2) := by decide +kernel
theorem dX3_ask_166 : decode cX3_ask 166 = .ok (.getfield 170, 3) := by decide +kernel
theorem dX3_ask_169 : decode cX3_ask 169 = .ok (.ireturn, 1) := by decide +kernel
theorem dX3_tick_0 : decode cX3_tick 0 = .ok (.iload_n 1, 1) := by decide +kernel
theorem dX3_tick_1 : decode cX3_tick 1 = .ok (.iconst 1, 1) := by decide +kernel
theorem dX3_tick_2 : decode cX3_tick 2 = .ok (.sipush 300, 3) := by decide +kernel
theorem dX3_tick_5 : decode cX3_tick 5 = .ok (.invokestatic 54, 3) := by decide +kernel
theorem dX3_tick_8 : decode cX3_tick 8 = .ok (.ifCond .eq 15, 3) := by decide +kernel
theorem dX3_tick_11 : decode cX3_tick 11 = .ok (.aload_n 0, 1) := by decide +kernel
theorem dX3_tick_12 : decode cX3_tick 12 = .ok (.getfield 42, 3) := by decide +kernel
theorem dX3_tick_15 : decode cX3_tick 15 = .ok (.iload_n 1, 1) := by decide +kernel
theorem dX3_tick_16 : decode cX3_tick 16 = .ok (.iadd, 1) := by decide +kernel
theorem dX3_tick_17 : decode cX3_tick 17 = .ok (.sipush 1500, 3) := by decide +kernel
theorem dX3_tick_20 : decode cX3_tick 20 = .ok (.if_icmp .le 13, 3) := by decide +kernel
theorem dX3_tick_23 : decode cX3_tick 23 = .ok (.new 58, 3) := by decide +kernel
theorem dX3_tick_26 : decode cX3_tick 26 = .ok (.dup, 1) := by decide +kernel
theorem dX3_tick_27 : decode cX3_tick 27 = .ok (.ldc 207, 2) := by decide +kernel
theorem dX3_tick_29 : decode cX3_tick 29 = .ok (.invokespecial 62, 3) := by decide +kernel
theorem dX3_tick_32 : decode cX3_tick 32 = .ok (.athrow, 1) := by decide +kernel
theorem dX3_tick_33 : decode cX3_tick 33 = .ok (.iconst 0, 1) := by decide +kernel
theorem dX3_tick_34 : decode cX3_tick 34 = .ok (.istore_n 2, 1) := by decide +kernel
theorem dX3_tick_35 : decode cX3_tick 35 = .ok (.iconst 0, 1) := by decide +kernel
theorem dX3_tick_36 : decode cX3_tick 36 = .ok (.istore_n 3, 1) := by decide +kernel
theorem dX3_tick_37 : decode cX3_tick 37 = .ok (.iload_n 3, 1) := by decide +kernel
theorem dX3_tick_38 : decode cX3_tick 38 = .ok (.iload_n 1, 1) := by decide +kernel
theorem dX3_tick_39 : decode cX3_tick 39 = .ok (.if_icmp .ge 19, 3) := by decide +kernel
theorem dX3_tick_42 : decode cX3_tick 42 = .ok (.aload_n 0, 1) := by decide +kernel
theorem dX3_tick_43 : decode cX3_tick 43 = .ok (.invokevirtual 209, 3) := by decide +kernel
theorem dX3_tick_46 : decode cX3_tick 46 = .ok (.ifCond .eq 6, 3) := by decide +kernel
theorem dX3_tick_49 : decode cX3_tick 49 = .ok (.iinc 2 1, 3) := by decide +kernel
theorem dX3_tick_52 : decode cX3_tick 52 = .ok (.iinc 3 1, 3) := by decide +kernel
theorem dX3_tick_55 : decode cX3_tick 55 = .ok (.goto (-18), 3) := by decide +kernel
theorem dX3_tick_58 : decode cX3_tick 58 = .ok (.iload_n 2, 1) := by decide +kernel
theorem dX3_tick_59 : decode cX3_tick 59 = .ok (.ireturn, 1) := by decide +kernel
theorem dX3_flight_0 : decode cX3_flight 0 = .ok (.aload_n 0, 1) := by decide +kernel
theorem dX3_flight_1 : decode cX3_flight 1 = .ok (.iload_n 1, 1) := by decide +kernel
theorem dX3_flight_2 : decode cX3_flight 2 = .ok (.invokevirtual 213, 3) := by decide +kernel
theorem dX3_flight_5 : decode cX3_flight 5 = .ok (.astore_n 3, 1) := by decide +kernel
theorem dX3_flight_6 : decode cX3_flight 6 = .ok (.iload_n 2, 1) := by decide +kernel
theorem dX3_flight_7 : decode cX3_flight 7 = .ok (.iconst 0, 1) := by decide +kernel
theorem dX3_flight_8 : decode cX3_flight 8 = .ok (.bipush 7, 2) := by decide +kernel
theorem dX3_flight_10 : decode cX3_flight 10 = .ok (.invokestatic 54, 3) := by decide +kernel
theorem dX3_flight_13 : decode cX3_flight 13 = .ok (.ifCond .ne 13, 3) := by decide +kernel
theorem dX3_flight_16 : decode cX3_flight 16 = .ok (.new 135, 3) := by decide +kernel
theorem dX3_flight_19 : decode cX3_flight 19 = .ok (.dup, 1) := by decide +kernel
theorem dX3_flight_20 : decode cX3_flight 20 = .ok (.ldc 137, 2) := by decide +kernel
theorem dX3_flight_22 : decode cX3_flight 22 = .ok (.invokespecial 139, 3) := by decide +kernel
theorem dX3_flight_25 : decode cX3_flight 25 = .ok (.athrow, 1) := by decide +kernel
theorem dX3_flight_26 : decode cX3_flight 26 = .ok (.aload_n 3, 1) := by decide +kernel
theorem dX3_flight_27 : decode cX3_flight 27 = .ok (.iload_n 2, 1) := by decide +kernel
theorem dX3_flight_28 : decode cX3_flight 28 = .ok (.invokestatic 216, 3) := by decide +kernel
theorem dX3_flight_31 : decode cX3_flight 31 = .ok (.ireturn, 1) := by decide +kernel
theorem dX3_count_0 : decode cX3_count 0 = .ok (.iload_n 1, 1) := by decide +kernel
theorem dX3_count_1 : decode cX3_count 1 = .ok (.iconst 0, 1) := by decide +kernel
theorem dX3_count_2 : decode cX3_count 2 = .ok (.bipush 7, 2) := by decide +kernel
theorem dX3_count_4 : decode cX3_count 4 = .ok (.invokestatic 54, 3) := by decide +kernel
theorem dX3_count_7 : decode cX3_count 7 = .ok (.ifCond .ne 13, 3) := by decide +kernel
theorem dX3_count_10 : decode cX3_count 10 = .ok (.new 135, 3) := by decide +kernel
theorem dX3_count_13 : decode cX3_count 13 = .ok (.dup, 1) := by decide +kernel
theorem dX3_count_14 : decode cX3_count 14 = .ok (.ldc 220, 2) := by decide +kernel
theorem dX3_count_16 : decode cX3_count 16 = .ok (.invokespecial 139, 3) := by decide +kernel
theorem dX3_count_19 : decode cX3_count 19 = .ok (.athrow, 1) := by decide +kernel
theorem dX3_count_20 : decode cX3_count 20 = .ok (.aload_n 0, 1) := by decide +kernel
theorem dX3_count_21 : decode cX3_count 21 = .ok (.iload_n 1, 1) := by decide +kernel
theorem dX3_count_22 : decode cX3_count 22 = .ok (.invokevirtual 222, 3) := by decide +kernel
theorem dX3_count_25 : decode cX3_count 25 = .ok (.ireturn, 1) := by decide +kernel
theorem dX3_isBusy_0 : decode cX3_isBusy 0 = .ok (.aload_n 0, 1) := by decide +kernel
theorem dX3_isBusy_1 : decode cX3_isBusy 1 = .ok (.getfield 42, 3) := by decide +kernel
theorem dX3_isBusy_4 : decode cX3_isBusy 4 = .ok (.aload_n 0, 1) := by decide +kernel
theorem dX3_isBusy_5 : decode cX3_isBusy 5 = .ok (.getfield 51, 3) := by decide +kernel
theorem dX3_isBusy_8 : decode cX3_isBusy 8 = .ok (.if_icmp .ge 7, 3) := by decide +kernel
theorem dX3_isBusy_11 : decode cX3_isBusy 11 = .ok (.iconst 1, 1) := by decide +kernel
theorem dX3_isBusy_12 : decode cX3_isBusy 12 = .ok (.goto 4, 3) := by decide +kernel
theorem dX3_isBusy_15 : decode cX3_isBusy 15 = .ok (.iconst 0, 1) := by decide +kernel
theorem dX3_isBusy_16 : decode cX3_isBusy 16 = .ok (.ireturn, 1) := by decide +kernel
theorem dX3_bill_0 : decode cX3_bill 0 = .ok (.aload_n 0, 1) := by decide +kernel
theorem dX3_bill_1 : decode cX3_bill 1 = .ok (.iload_n 1, 1) := by decide +kernel
theorem dX3_bill_2 : decode cX3_bill 2 = .ok (.invokevirtual 119, 3) := by decide +kernel
theorem dX3_bill_5 : decode cX3_bill 5 = .ok (.getfield 226, 3) := by decide +kernel
theorem dX3_bill_8 : decode cX3_bill 8 = .ok (.ireturn, 1) := by decide +kernel
theorem dX3_income_0 : decode cX3_income 0 = .ok (.iconst 0, 1) := by decide +kernel
theorem dX3_income_1 : decode cX3_income 1 = .ok (.istore_n 1, 1) := by decide +kernel
theorem dX3_income_2 : decode cX3_income 2 = .ok (.iconst 0, 1) := by decide +kernel
theorem dX3_income_3 : decode cX3_income 3 = .ok (.istore_n 2, 1) := by decide +kernel
theorem dX3_income_4 : decode cX3_income 4 = .ok (.iload_n 2, 1) := by decide +kernel
theorem dX3_income_5 : decode cX3_income 5 = .ok (.aload_n 0, 1) := by decide +kernel
theorem dX3_income_6 : decode cX3_income 6 = .ok (.getfield 19, 3) := by decide +kernel
theorem dX3_income_9 : decode cX3_income 9 = .ok (.invokevirtual 65, 3) := by decide +kernel
theorem dX3_income_12 : decode cX3_income 12 = .ok (.if_icmp .ge 26, 3) := by decide +kernel
theorem dX3_income_15 : decode cX3_income 15 = .ok (.iload_n 1, 1) := by decide +kernel
theorem dX3_income_16 : decode cX3_income 16 = .ok (.aload_n 0, 1) := by decide +kernel
theorem dX3_income_17 : decode cX3_income 17 = .ok (.getfield 19, 3) := by decide +kernel
theorem dX3_income_20 : decode cX3_income 20 = .ok (.iload_n 2, 1) := by decide +kernel
theorem dX3_income_21 : decode cX3_income 21 = .ok (.invokevirtual 188, 3) := by decide +kernel
theorem dX3_income_24 : decode cX3_income 24 = .ok (.checkcast 156, 3) := by decide +kernel
theorem dX3_income_27 : decode cX3_income 27 = .ok (.getfield 232, 3) := by decide +kernel
theorem dX3_income_30 : decode cX3_income 30 = .ok (.iadd, 1) := by decide +kernel
theorem dX3_income_31 : decode cX3_income 31 = .ok (.istore_n 1, 1) := by decide +kernel
theorem dX3_income_32 : decode cX3_income 32 = .ok (.iinc 2 1, 3) := by decide +kernel
theorem dX3_income_35 : decode cX3_income 35 = .ok (.goto (-31), 3) := by decide +kernel
theorem dX3_income_38 : decode cX3_income 38 = .ok (.iload_n 1, 1) := by decide +kernel
theorem dX3_income_39 : decode cX3_income 39 = .ok (.ireturn, 1) := by decide +kernel
theorem dX3_waited_0 : decode cX3_waited 0 = .ok (.iconst 0, 1) := by decide +kernel
theorem dX3_waited_1 : decode cX3_waited 1 = .ok (.istore_n 1, 1) := by decide +kernel
theorem dX3_waited_2 : decode cX3_waited 2 = .ok (.iconst 0, 1) := by decide +kernel
theorem dX3_waited_3 : decode cX3_waited 3 = .ok (.istore_n 2, 1) := by decide +kernel
theorem dX3_waited_4 : decode cX3_waited 4 = .ok (.iconst 0, 1) := by decide +kernel
theorem dX3_waited_5 : decode cX3_waited 5 = .ok (.istore_n 3, 1) := by decide +kernel
theorem dX3_waited_6 : decode cX3_waited 6 = .ok (.iload_n 3, 1) := by decide +kernel
theorem dX3_waited_7 : decode cX3_waited 7 = .ok (.aload_n 0, 1) := by decide +kernel
theorem dX3_waited_8 : decode cX3_waited 8 = .ok (.getfield 19, 3) := by decide +kernel
theorem dX3_waited_11 : decode cX3_waited 11 = .ok (.invokevirtual 65, 3) := by decide +kernel
theorem dX3_waited_14 : decode cX3_waited 14 = .ok (.if_icmp .ge 48, 3) := by decide +kernel
theorem dX3_waited_17 : decode cX3_waited 17 = .ok (.aload_n 0, 1) := by decide +kernel
theorem dX3_waited_18 : decode cX3_waited 18 = .ok (.getfield 19, 3) := by decide +kernel
theorem dX3_waited_21 : decode cX3_waited 21 = .ok (.iload_n 3, 1) := by decide +kernel
theorem dX3_waited_22 : decode cX3_waited 22 = .ok (.invokevirtual 188, 3) := by decide +kernel
theorem dX3_waited_25 : decode cX3_waited 25 = .ok (.checkcast 156, 3) := by decide +kernel
theorem dX3_waited_28 : decode cX3_waited 28 = .ok (.astore 4, 2) := by decide +kernel
theorem dX3_waited_30 : decode cX3_waited 30 = .ok (.aload 4, 2) := by decide +kernel
theorem dX3_waited_32 : decode cX3_waited 32 = .ok (.getfield 204, 3) := by decide +kernel
theorem dX3_waited_35 : decode cX3_waited 35 = .ok (.iconst (-1), 1) := by decide +kernel
theorem dX3_waited_36 : decode cX3_waited 36 = .ok (.if_icmp .eq 20, 3) := by decide +kernel
theorem dX3_waited_39 : decode cX3_waited 39 = .ok (.iinc 1 1, 3) := by decide +kernel
theorem dX3_waited_42 : decode cX3_waited 42 = .ok (.iload_n 2, 1) := by decide +kernel
theorem dX3_waited_43 : decode cX3_waited 43 = .ok (.aload 4, 2) := by decide +kernel
theorem dX3_waited_45 : decode cX3_waited 45 = .ok (.getfield 204, 3) := by decide +kernel
theorem dX3_waited_48 : decode cX3_waited 48 = .ok (.aload 4, 2) := by decide +kernel
theorem dX3_waited_50 : decode cX3_waited 50 = .ok (.getfield 167, 3) := by decide +kernel
theorem dX3_waited_53 : decode cX3_waited 53 = .ok (.isub, 1) := by decide +kernel
theorem dX3_waited_54 : decode cX3_waited 54 = .ok (.iadd, 1) := by decide +kernel
theorem dX3_waited_55 : decode cX3_waited 55 = .ok (.istore_n 2, 1) := by decide +kernel
theorem dX3_waited_56 : decode cX3_waited 56 = .ok (.iinc 3 1, 3) := by decide +kernel
theorem dX3_waited_59 : decode cX3_waited 59 = .ok (.goto (-53), 3) := by decide +kernel
theorem dX3_waited_62 : decode cX3_waited 62 = .ok (.iload_n 1, 1) := by decide +kernel
theorem dX3_waited_63 : decode cX3_waited 63 = .ok (.ifCond .ne 7, 3) := by decide +kernel
theorem dX3_waited_66 : decode cX3_waited 66 = .ok (.dconst 0, 1) := by decide +kernel
theorem dX3_waited_67 : decode cX3_waited 67 = .ok (.goto 8, 3) := by decide +kernel
theorem dX3_waited_70 : decode cX3_waited 70 = .ok (.iload_n 2, 1) := by decide +kernel
theorem dX3_waited_71 : decode cX3_waited 71 = .ok (.i2d, 1) := by decide +kernel
theorem dX3_waited_72 : decode cX3_waited 72 = .ok (.iload_n 1, 1) := by decide +kernel
theorem dX3_waited_73 : decode cX3_waited 73 = .ok (.i2d, 1) := by decide +kernel
theorem dX3_waited_74 : decode cX3_waited 74 = .ok (.ddiv, 1) := by decide +kernel
theorem dX3_waited_75 : decode cX3_waited 75 = .ok (.dreturn, 1) := by decide +kernel
theorem dX3_isWithin_0 : decode cX3_isWithin 0 = .ok (.iload_n 0, 1) := by decide +kernel
theorem dX3_isWithin_1 : decode cX3_isWithin 1 = .ok (.iload_n 1, 1) := by decide +kernel
theorem dX3_isWithin_2 : decode cX3_isWithin 2 = .ok (.if_icmp .lt 12, 3) := by decide +kernel
theorem dX3_isWithin_5 : decode cX3_isWithin 5 = .ok (.iload_n 0, 1) := by decide +kernel
theorem dX3_isWithin_6 : decode cX3_isWithin 6 = .ok (.iload_n 2, 1) := by decide +kernel
theorem dX3_isWithin_7 : decode cX3_isWithin 7 = .ok (.if_icmp .gt 7, 3) := by decide +kernel
theorem dX3_isWithin_10 : decode cX3_isWithin 10 = .ok (.iconst 1, 1) := by decide +kernel
theorem dX3_isWithin_11 : decode cX3_isWithin 11 = .ok (.goto 4, 3) := by decide +kernel
theorem dX3_isWithin_14 : decode cX3_isWithin 14 = .ok (.iconst 0, 1) := by decide +kernel
theorem dX3_isWithin_15 : decode cX3_isWithin 15 = .ok (.ireturn, 1) := by decide +kernel
theorem dX3_isHeight_0 : decode cX3_isHeight 0 = .ok (.iload_n 0, 1) := by decide +kernel
theorem dX3_isHeight_1 : decode cX3_isHeight 1 = .ok (.ifCond .eq 16, 3) := by decide +kernel
theorem dX3_isHeight_4 : decode cX3_isHeight 4 = .ok (.iload_n 0, 1) := by decide +kernel
theorem dX3_isHeight_5 : decode cX3_isHeight 5 = .ok (.sipush 200, 3) := by decide +kernel
theorem dX3_isHeight_8 : decode cX3_isHeight 8 = .ok (.sipush 1500, 3) := by decide +kernel
theorem dX3_isHeight_11 : decode cX3_isHeight 11 = .ok (.invokestatic 54, 3) := by decide +kernel
theorem dX3_isHeight_14 : decode cX3_isHeight 14 = .ok (.ifCond .eq 7, 3) := by decide +kernel
theorem dX3_isHeight_17 : decode cX3_isHeight 17 = .ok (.iconst 1, 1) := by decide +kernel
theorem dX3_isHeight_18 : decode cX3_isHeight 18 = .ok (.goto 4, 3) := by decide +kernel
theorem dX3_isHeight_21 : decode cX3_isHeight 21 = .ok (.iconst 0, 1) := by decide +kernel
theorem dX3_isHeight_22 : decode cX3_isHeight 22 = .ok (.ireturn, 1) := by decide +kernel
theorem dX3_memberAt_0 : decode cX3_memberAt 0 = .ok (.iload_n 1, 1) := by decide +kernel
theorem dX3_memberAt_1 : decode cX3_memberAt 1 = .ok (.ifCond .lt 14, 3) := by decide +kernel
theorem dX3_memberAt_4 : decode cX3_memberAt 4 = .ok (.iload_n 1, 1) := by decide +kernel
theorem dX3_memberAt_5 : decode cX3_memberAt 5 = .ok (.aload_n 0, 1) := by decide +kernel
theorem dX3_memberAt_6 : decode cX3_memberAt 6 = .ok (.getfield 10, 3) := by decide +kernel
theorem dX3_memberAt_9 : decode cX3_memberAt 9 = .ok (.invokevirtual 65, 3) := by decide +kernel
theorem dX3_memberAt_12 : decode cX3_memberAt 12 = .ok (.if_icmp .lt 14, 3) := by decide +kernel
theorem dX3_memberAt_15 : decode cX3_memberAt 15 = .ok (.new 135, 3) := by decide +kernel
theorem dX3_memberAt_18 : decode cX3_memberAt 18 = .ok (.dup, 1) := by decide +kernel
theorem dX3_memberAt_19 : decode cX3_memberAt 19 = .ok (.ldc_w 256, 3) := by decide +kernel
theorem dX3_memberAt_22 : decode cX3_memberAt 22 = .ok (.invokespecial 139, 3) := by decide +kernel
theorem dX3_memberAt_25 : decode cX3_memberAt 25 = .ok (.athrow, 1) := by decide +kernel
theorem dX3_memberAt_26 : decode cX3_memberAt 26 = .ok (.aload_n 0, 1) := by decide +kernel
theorem dX3_memberAt_27 : decode cX3_memberAt 27 = .ok (.getfield 10, 3) := by decide +kernel
theorem dX3_memberAt_30 : decode cX3_memberAt 30 = .ok (.iload_n 1, 1) := by decide +kernel
theorem dX3_memberAt_31 : decode cX3_memberAt 31 = .ok (.invokevirtual 188, 3) := by decide +kernel
theorem dX3_memberAt_34 : decode cX3_memberAt 34 = .ok (.checkcast 74, 3) := by decide +kernel
theorem dX3_memberAt_37 : decode cX3_memberAt 37 = .ok (.areturn, 1) := by decide +kernel
theorem dX3_gliderAt_0 : decode cX3_gliderAt 0 = .ok (.iload_n 1, 1) := by decide +kernel
theorem dX3_gliderAt_1 : decode cX3_gliderAt 1 = .ok (.ifCond .lt 14, 3) := by decide +kernel
theorem dX3_gliderAt_4 : decode cX3_gliderAt 4 = .ok (.iload_n 1, 1) := by decide +kernel
theorem dX3_gliderAt_5 : decode cX3_gliderAt 5 = .ok (.aload_n 0, 1) := by decide +kernel
theorem dX3_gliderAt_6 : decode cX3_gliderAt 6 = .ok (.getfield 16, 3) := by decide +kernel
theorem dX3_gliderAt_9 : decode cX3_gliderAt 9 = .ok (.invokevirtual 65, 3) := by decide +kernel
theorem dX3_gliderAt_12 : decode cX3_gliderAt 12 = .ok (.if_icmp .lt 14, 3) := by decide +kernel
theorem dX3_gliderAt_15 : decode cX3_gliderAt 15 = .ok (.new 135, 3) := by decide +kernel
theorem dX3_gliderAt_18 : decode cX3_gliderAt 18 = .ok (.dup, 1) := by decide +kernel
theorem dX3_gliderAt_19 : decode cX3_gliderAt 19 = .ok (.ldc_w 258, 3) := by decide +kernel
theorem dX3_gliderAt_22 : decode cX3_gliderAt 22 = .ok (.invokespecial 139, 3) := by decide +kernel
theorem dX3_gliderAt_25 : decode cX3_gliderAt 25 = .ok (.athrow, 1) := by decide +kernel
theorem dX3_gliderAt_26 : decode cX3_gliderAt 26 = .ok (.aload_n 0, 1) := by decide +kernel
theorem dX3_gliderAt_27 : decode cX3_gliderAt 27 = .ok (.getfield 16, 3) := by decide +kernel
theorem dX3_gliderAt_30 : decode cX3_gliderAt 30 = .ok (.iload_n 1, 1) := by decide +kernel
theorem dX3_gliderAt_31 : decode cX3_gliderAt 31 = .ok (.invokevirtual 188, 3) := by decide +kernel
theorem dX3_gliderAt_34 : decode cX3_gliderAt 34 = .ok (.checkcast 87, 3) := by decide +kernel
theorem dX3_gliderAt_37 : decode cX3_gliderAt 37 = .ok (.areturn, 1) := by decide +kernel
theorem dX3_flightAt_0 : decode cX3_flightAt 0 = .ok (.iload_n 1, 1) := by decide +kernel
theorem dX3_flightAt_1 : decode cX3_flightAt 1 = .ok (.ifCond .lt 14, 3) := by decide +kernel
theorem dX3_flightAt_4 : decode cX3_flightAt 4 = .ok (.iload_n 1, 1) := by decide +kernel
theorem dX3_flightAt_5 : decode cX3_flightAt 5 = .ok (.aload_n 0, 1) := by decide +kernel
theorem dX3_flightAt_6 : decode cX3_flightAt 6 = .ok (.getfield 19, 3) := by decide +kernel
theorem dX3_flightAt_9 : decode cX3_flightAt 9 = .ok (.invokevirtual 65, 3) := by decide +kernel
theorem dX3_flightAt_12 : decode cX3_flightAt 12 = .ok (.if_icmp .lt 14, 3) := by decide +kernel
theorem dX3_flightAt_15 : decode cX3_flightAt 15 = .ok (.new 135, 3) := by decide +kernel
theorem dX3_flightAt_18 : decode cX3_flightAt 18 = .ok (.dup, 1) := by decide +kernel
theorem dX3_flightAt_19 : decode cX3_flightAt 19 = .ok (.ldc_w 260, 3) := by decide +kernel
theorem dX3_flightAt_22 : decode cX3_flightAt 22 = .ok (.invokespecial 139, 3) := by decide +kernel
theorem dX3_flightAt_25 : decode cX3_flightAt 25 = .ok (.athrow, 1) := by decide +kernel
theorem dX3_flightAt_26 : decode cX3_flightAt 26 = .ok (.aload_n 0, 1) := by decide +kernel
theorem dX3_flightAt_27 : decode cX3_flightAt 27 = .ok (.getfield 19, 3) := by decide +kernel
theorem dX3_flightAt_30 : decode cX3_flightAt 30 = .ok (.iload_n 1, 1) := by decide +kernel
theorem dX3_flightAt_31 : decode cX3_flightAt 31 = .ok (.invokevirtual 188, 3) := by decide +kernel
theorem dX3_flightAt_34 : decode cX3_flightAt 34 = .ok (.checkcast 156, 3) := by decide +kernel
theorem dX3_flightAt_37 : decode cX3_flightAt 37 = .ok (.areturn, 1) := by decide +kernel
theorem dX3_takeOffList_0 : decode cX3_takeOffList 0 = .ok (.iload_n 1, 1) := by decide +kernel
theorem dX3_takeOffList_1 : decode cX3_takeOffList 1 = .ok (.ifCond .lt 23, 3) := by decide +kernel
theorem dX3_takeOffList_4 : decode cX3_takeOffList 4 = .ok (.iload_n 1, 1) := by decide +kernel
theorem dX3_takeOffList_5 : decode cX3_takeOffList 5 = .ok (.aload_n 0, 1) := by decide +kernel
theorem dX3_takeOffList_6 : decode cX3_takeOffList 6 = .ok (.getfield 22, 3) := by decide +kernel
theorem dX3_takeOffList_9 : decode cX3_takeOffList 9 = .ok (.invokevirtual 65, 3) := by decide +kernel
theorem dX3_takeOffList_12 : decode cX3_takeOffList 12 = .ok (.if_icmp .ge 12, 3) := by decide +kernel
theorem dX3_takeOffList_15 : decode cX3_takeOffList 15 = .ok (.aload_n 0, 1) := by decide +kernel
theorem dX3_takeOffList_16 : decode cX3_takeOffList 16 = .ok (.getfield 22, 3) := by decide +kernel
theorem dX3_takeOffList_19 : decode cX3_takeOffList 19 = .ok (.iload_n 1, 1) := by decide +kernel
theorem dX3_takeOffList_20 : decode cX3_takeOffList 20 = .ok (.invokevirtual 264, 3) := by decide +kernel
theorem dX3_takeOffList_23 : decode cX3_takeOffList 23 = .ok (.pop, 1) := by decide +kernel
theorem dX3_takeOffList_24 : decode cX3_takeOffList 24 = .ok (.return_, 1) := by decide +kernel
theorem dX3_memberFact_0 : decode cX3_memberFact 0 = .ok (.iload_n 1, 1) := by decide +kernel
theorem dX3_memberFact_1 : decode cX3_memberFact 1 = .ok (.tableswitch 68 0 4 #[35, 40, 53, 58, 63], 35) := by decide +kernel
theorem dX3_memberFact_36 : decode cX3_memberFact 36 = .ok (.aload_n 0, 1) := by decide +kernel
theorem dX3_memberFact_37 : decode cX3_memberFact 37 = .ok (.getfield 132, 3) := by decide +kernel
theorem dX3_memberFact_40 : decode cX3_memberFact 40 = .ok (.ireturn, 1) := by decide +kernel
theorem dX3_memberFact_41 : decode cX3_memberFact 41 = .ok (.aload_n 0, 1) := by decide +kernel
theorem dX3_memberFact_42 : decode cX3_memberFact 42 = .ok (.getfield 123, 3) := by decide +kernel
theorem dX3_memberFact_45 : decode cX3_memberFact 45 = .ok (.ifCond .eq 7, 3) := by decide +kernel
theorem dX3_memberFact_48 : decode cX3_memberFact 48 = .ok (.iconst 1, 1) := by decide +kernel
theorem dX3_memberFact_49 : decode cX3_memberFact 49 = .ok (.goto 4, 3) := by decide +kernel
theorem dX3_memberFact_52 : decode cX3_memberFact 52 = .ok (.iconst 0, 1) := by decide +kernel
theorem dX3_memberFact_53 : decode cX3_memberFact 53 = .ok (.ireturn, 1) := by decide +kernel
theorem dX3_memberFact_54 : decode cX3_memberFact 54 = .ok (.aload_n 0, 1) := by decide +kernel
theorem dX3_memberFact_55 : decode cX3_memberFact 55 = .ok (.getfield 267, 3) := by decide +kernel
theorem dX3_memberFact_58 : decode cX3_memberFact 58 = .ok (.ireturn, 1) := by decide +kernel
theorem dX3_memberFact_59 : decode cX3_memberFact 59 = .ok (.aload_n 0, 1) := by decide +kernel
theorem dX3_memberFact_60 : decode cX3_memberFact 60 = .ok (.getfield 270, 3) := by decide +kernel
theorem dX3_memberFact_63 : decode cX3_memberFact 63 = .ok (.ireturn, 1) := by decide +kernel
theorem dX3_memberFact_64 : decode cX3_memberFact 64 = .ok (.aload_n 0, 1) := by decide +kernel
theorem dX3_memberFact_65 : decode cX3_memberFact 65 = .ok (.getfield 271, 3) := by decide +kernel
theorem dX3_memberFact_68 : decode cX3_memberFact 68 = .ok (.ireturn, 1) := by decide +kernel
theorem dX3_memberFact_69 : decode cX3_memberFact 69 = .ok (.aload_n 0, 1) := by decide +kernel
theorem dX3_memberFact_70 : decode cX3_memberFact 70 = .ok (.getfield 274, 3) := by decide +kernel
theorem dX3_memberFact_73 : decode cX3_memberFact 73 = .ok (.ireturn, 1) := by decide +kernel
theorem dX3_gliderFact_0 : decode cX3_gliderFact 0 = .ok (.iload_n 1, 1) := by decide +kernel
theorem dX3_gliderFact_1 : decode cX3_gliderFact 1 = .ok (.tableswitch 59 0 3 #[31, 36, 49, 54], 31) := by decide +kernel
theorem dX3_gliderFact_32 : decode cX3_gliderFact 32 = .ok (.aload_n 0, 1) := by decide +kernel
theorem dX3_gliderFact_33 : decode cX3_gliderFact 33 = .ok (.getfield 110, 3) := by decide +kernel
theorem dX3_gliderFact_36 : decode cX3_gliderFact 36 = .ok (.ireturn, 1) := by decide +kernel
theorem dX3_gliderFact_37 : decode cX3_gliderFact 37 = .ok (.aload_n 0, 1) := by decide +kernel
theorem dX3_gliderFact_38 : decode cX3_gliderFact 38 = .ok (.getfield 115, 3) := by decide +kernel
theorem dX3_gliderFact_41 : decode cX3_gliderFact 41 = .ok (.ifCond .eq 7, 3) := by decide +kernel
theorem dX3_gliderFact_44 : decode cX3_gliderFact 44 = .ok (.iconst 1, 1) := by decide +kernel
theorem dX3_gliderFact_45 : decode cX3_gliderFact 45 = .ok (.goto 4, 3) := by decide +kernel
theorem dX3_gliderFact_48 : decode cX3_gliderFact 48 = .ok (.iconst 0, 1) := by decide +kernel
theorem dX3_gliderFact_49 : decode cX3_gliderFact 49 = .ok (.ireturn, 1) := by decide +kernel
theorem dX3_gliderFact_50 : decode cX3_gliderFact 50 = .ok (.aload_n 0, 1) := by decide +kernel
theorem dX3_gliderFact_51 : decode cX3_gliderFact 51 = .ok (.getfield 277, 3) := by decide +kernel
theorem dX3_gliderFact_54 : decode cX3_gliderFact 54 = .ok (.ireturn, 1) := by decide +kernel
theorem dX3_gliderFact_55 : decode cX3_gliderFact 55 = .ok (.aload_n 0, 1) := by decide +kernel
theorem dX3_gliderFact_56 : decode cX3_gliderFact 56 = .ok (.getfield 278, 3) := by decide +kernel
theorem dX3_gliderFact_59 : decode cX3_gliderFact 59 = .ok (.ireturn, 1) := by decide +kernel
theorem dX3_gliderFact_60 : decode cX3_gliderFact 60 = .ok (.aload_n 0, 1) := by decide +kernel
theorem dX3_gliderFact_61 : decode cX3_gliderFact 61 = .ok (.getfield 195, 3) := by decide +kernel
theorem dX3_gliderFact_64 : decode cX3_gliderFact 64 = .ok (.ifnonnull 7, 3) := by decide +kernel
theorem dX3_gliderFact_67 : decode cX3_gliderFact 67 = .ok (.iconst (-1), 1) := by decide +kernel
theorem dX3_gliderFact_68 : decode cX3_gliderFact 68 = .ok (.goto 10, 3) := by decide +kernel
theorem dX3_gliderFact_71 : decode cX3_gliderFact 71 = .ok (.aload_n 0, 1) := by decide +kernel
theorem dX3_gliderFact_72 : decode cX3_gliderFact 72 = .ok (.getfield 195, 3) := by decide +kernel
theorem dX3_gliderFact_75 : decode cX3_gliderFact 75 = .ok (.getfield 170, 3) := by decide +kernel
theorem dX3_gliderFact_78 : decode cX3_gliderFact 78 = .ok (.ireturn, 1) := by decide +kernel
theorem dX3_flightFact_0 : decode cX3_flightFact 0 = .ok (.iload_n 1, 1) := by decide +kernel
theorem dX3_flightFact_1 : decode cX3_flightFact 1 = .ok (.tableswitch 98 0 6 #[43, 48, 56, 75, 83, 88, 93], 43) := by decide +kernel
theorem dX3_flightFact_44 : decode cX3_flightFact 44 = .ok (.aload_n 0, 1) := by decide +kernel
theorem dX3_flightFact_45 : decode cX3_flightFact 45 = .ok (.getfield 185, 3) := by decide +kernel
theorem dX3_flightFact_48 : decode cX3_flightFact 48 = .ok (.ireturn, 1) := by decide +kernel
theorem dX3_flightFact_49 : decode cX3_flightFact 49 = .ok (.aload_n 0, 1) := by decide +kernel
theorem dX3_flightFact_50 : decode cX3_flightFact 50 = .ok (.getfield 279, 3) := by decide +kernel
theorem dX3_flightFact_53 : decode cX3_flightFact 53 = .ok (.getfield 283, 3) := by decide +kernel
theorem dX3_flightFact_56 : decode cX3_flightFact 56 = .ok (.ireturn, 1) := by decide +kernel
theorem dX3_flightFact_57 : decode cX3_flightFact 57 = .ok (.aload_n 0, 1) := by decide +kernel
theorem dX3_flightFact_58 : decode cX3_flightFact 58 = .ok (.getfield 284, 3) := by decide +kernel
theorem dX3_flightFact_61 : decode cX3_flightFact 61 = .ok (.ifnonnull 7, 3) := by decide +kernel
theorem dX3_flightFact_64 : decode cX3_flightFact 64 = .ok (.iconst (-1), 1) := by decide +kernel
theorem dX3_flightFact_65 : decode cX3_flightFact 65 = .ok (.goto 10, 3) := by decide +kernel
theorem dX3_flightFact_68 : decode cX3_flightFact 68 = .ok (.aload_n 0, 1) := by decide +kernel
theorem dX3_flightFact_69 : decode cX3_flightFact 69 = .ok (.getfield 284, 3) := by decide +kernel
theorem dX3_flightFact_72 : decode cX3_flightFact 72 = .ok (.getfield 283, 3) := by decide +kernel
theorem dX3_flightFact_75 : decode cX3_flightFact 75 = .ok (.ireturn, 1) := by decide +kernel
theorem dX3_flightFact_76 : decode cX3_flightFact 76 = .ok (.aload_n 0, 1) := by decide +kernel
theorem dX3_flightFact_77 : decode cX3_flightFact 77 = .ok (.getfield 287, 3) := by decide +kernel
theorem dX3_flightFact_80 : decode cX3_flightFact 80 = .ok (.getfield 291, 3) := by decide +kernel
theorem dX3_flightFact_83 : decode cX3_flightFact 83 = .ok (.ireturn, 1) := by decide +kernel
theorem dX3_flightFact_84 : decode cX3_flightFact 84 = .ok (.aload_n 0, 1) := by decide +kernel
theorem dX3_flightFact_85 : decode cX3_flightFact 85 = .ok (.getfield 161, 3) := by decide +kernel
theorem dX3_flightFact_88 : decode cX3_flightFact 88 = .ok (.ireturn, 1) := by decide +kernel
theorem dX3_flightFact_89 : decode cX3_flightFact 89 = .ok (.aload_n 0, 1) := by decide +kernel
theorem dX3_flightFact_90 : decode cX3_flightFact 90 = .ok (.getfield 204, 3) := by decide +kernel
theorem dX3_flightFact_93 : decode cX3_flightFact 93 = .ok (.ireturn, 1) := by decide +kernel
theorem dX3_flightFact_94 : decode cX3_flightFact 94 = .ok (.aload_n 0, 1) := by decide +kernel
theorem dX3_flightFact_95 : decode cX3_flightFact 95 = .ok (.getfield 235, 3) := by decide +kernel
theorem dX3_flightFact_98 : decode cX3_flightFact 98 = .ok (.ireturn, 1) := by decide +kernel
theorem dX3_flightFact_99 : decode cX3_flightFact 99 = .ok (.aload_n 0, 1) := by decide +kernel
theorem dX3_flightFact_100 : decode cX3_flightFact 100 = .ok (.getfield 232, 3) := by decide +kernel
theorem dX3_flightFact_103 : decode cX3_flightFact 103 = .ok (.ireturn, 1) := by decide +kernel
theorem dX3_countOf_0 : decode cX3_countOf 0 = .ok (.iload_n 1, 1) := by decide +kernel
theorem dX3_countOf_1 : decode cX3_countOf 1 = .ok (.tableswitch 95 0 6 #[43, 51, 59, 67, 75, 80, 88], 43) := by decide +kernel
theorem dX3_countOf_44 : decode cX3_countOf 44 = .ok (.aload_n 0, 1) := by decide +kernel
theorem dX3_countOf_45 : decode cX3_countOf 45 = .ok (.getfield 10, 3) := by decide +kernel
theorem dX3_countOf_48 : decode cX3_countOf 48 = .ok (.invokevirtual 65, 3) := by decide +kernel
theorem dX3_countOf_51 : decode cX3_countOf 51 = .ok (.ireturn, 1) := by decide +kernel
theorem dX3_countOf_52 : decode cX3_countOf 52 = .ok (.aload_n 0, 1) := by decide +kernel
theorem dX3_countOf_53 : decode cX3_countOf 53 = .ok (.getfield 16, 3) := by decide +kernel
theorem dX3_countOf_56 : decode cX3_countOf 56 = .ok (.invokevirtual 65, 3) := by decide +kernel
theorem dX3_countOf_59 : decode cX3_countOf 59 = .ok (.ireturn, 1) := by decide +kernel
theorem dX3_countOf_60 : decode cX3_countOf 60 = .ok (.aload_n 0, 1) := by decide +kernel
theorem dX3_countOf_61 : decode cX3_countOf 61 = .ok (.getfield 19, 3) := by decide +kernel
theorem dX3_countOf_64 : decode cX3_countOf 64 = .ok (.invokevirtual 65, 3) := by decide +kernel
theorem dX3_countOf_67 : decode cX3_countOf 67 = .ok (.ireturn, 1) := by decide +kernel
theorem dX3_countOf_68 : decode cX3_countOf 68 = .ok (.aload_n 0, 1) := by decide +kernel
theorem dX3_countOf_69 : decode cX3_countOf 69 = .ok (.getfield 22, 3) := by decide +kernel
theorem dX3_countOf_72 : decode cX3_countOf 72 = .ok (.invokevirtual 65, 3) := by decide +kernel
theorem dX3_countOf_75 : decode cX3_countOf 75 = .ok (.ireturn, 1) := by decide +kernel
theorem dX3_countOf_76 : decode cX3_countOf 76 = .ok (.aload_n 0, 1) := by decide +kernel
theorem dX3_countOf_77 : decode cX3_countOf 77 = .ok (.invokevirtual 292, 3) := by decide +kernel
theorem dX3_countOf_80 : decode cX3_countOf 80 = .ok (.ireturn, 1) := by decide +kernel
theorem dX3_countOf_81 : decode cX3_countOf 81 = .ok (.aload_n 0, 1) := by decide +kernel
theorem dX3_countOf_82 : decode cX3_countOf 82 = .ok (.getfield 25, 3) := by decide +kernel
theorem dX3_countOf_85 : decode cX3_countOf 85 = .ok (.invokevirtual 65, 3) := by decide +kernel
theorem dX3_countOf_88 : decode cX3_countOf 88 = .ok (.ireturn, 1) := by decide +kernel
theorem dX3_countOf_89 : decode cX3_countOf 89 = .ok (.iconst 2, 1) := by decide +kernel
theorem dX3_countOf_90 : decode cX3_countOf 90 = .ok (.aload_n 0, 1) := by decide +kernel
theorem dX3_countOf_91 : decode cX3_countOf 91 = .ok (.getfield 36, 3) := by decide +kernel
theorem dX3_countOf_94 : decode cX3_countOf 94 = .ok (.isub, 1) := by decide +kernel
theorem dX3_countOf_95 : decode cX3_countOf 95 = .ok (.ireturn, 1) := by decide +kernel
theorem dX3_countOf_96 : decode cX3_countOf 96 = .ok (.aload_n 0, 1) := by decide +kernel
theorem dX3_countOf_97 : decode cX3_countOf 97 = .ok (.invokevirtual 103, 3) := by decide +kernel
theorem dX3_countOf_100 : decode cX3_countOf 100 = .ok (.ireturn, 1) := by decide +kernel
theorem dX3_glidersInTheAir_0 : decode cX3_glidersInTheAir 0 = .ok (.iconst 0, 1) := by decide +kernel
theorem dX3_glidersInTheAir_1 : decode cX3_glidersInTheAir 1 = .ok (.istore_n 1, 1) := by decide +kernel
theorem dX3_glidersInTheAir_2 : decode cX3_glidersInTheAir 2 = .ok (.iconst 0, 1) := by decide +kernel
theorem dX3_glidersInTheAir_3 : decode cX3_glidersInTheAir 3 = .ok (.istore_n 2, 1) := by decide +kernel
theorem dX3_glidersInTheAir_4 : decode cX3_glidersInTheAir 4 = .ok (.iload_n 2, 1) := by decide +kernel
theorem dX3_glidersInTheAir_5 : decode cX3_glidersInTheAir 5 = .ok (.aload_n 0, 1) := by decide +kernel
theorem dX3_glidersInTheAir_6 : decode cX3_glidersInTheAir 6 = .ok (.getfield 16, 3) := by decide +kernel
theorem dX3_glidersInTheAir_9 : decode cX3_glidersInTheAir 9 = .ok (.invokevirtual 65, 3) := by decide +kernel
theorem dX3_glidersInTheAir_12 : decode cX3_glidersInTheAir 12 = .ok (.if_icmp .ge 29, 3) := by decide +kernel
theorem dX3_glidersInTheAir_15 : decode cX3_glidersInTheAir 15 = .ok (.aload_n 0, 1) := by decide +kernel
theorem dX3_glidersInTheAir_16 : decode cX3_glidersInTheAir 16 = .ok (.getfield 16, 3) := by decide +kernel
theorem dX3_glidersInTheAir_19 : decode cX3_glidersInTheAir 19 = .ok (.iload_n 2, 1) := by decide +kernel
theorem dX3_glidersInTheAir_20 : decode cX3_glidersInTheAir 20 = .ok (.invokevirtual 188, 3) := by decide +kernel
theorem dX3_glidersInTheAir_23 : decode cX3_glidersInTheAir 23 = .ok (.checkcast 87, 3) := by decide +kernel
theorem dX3_glidersInTheAir_26 : decode cX3_glidersInTheAir 26 = .ok (.getfield 110, 3) := by decide +kernel
theorem dX3_glidersInTheAir_29 : decode cX3_glidersInTheAir 29 = .ok (.ifCond .eq 6, 3) := by decide +kernel
theorem dX3_glidersInTheAir_32 : decode cX3_glidersInTheAir 32 = .ok (.iinc 1 1, 3) := by decide +kernel
theorem dX3_glidersInTheAir_35 : decode cX3_glidersInTheAir 35 = .ok (.iinc 2 1, 3) := by decide +kernel
theorem dX3_glidersInTheAir_38 : decode cX3_glidersInTheAir 38 = .ok (.goto (-34), 3) := by decide +kernel
theorem dX3_glidersInTheAir_41 : decode cX3_glidersInTheAir 41 = .ok (.iload_n 1, 1) := by decide +kernel
theorem dX3_glidersInTheAir_42 : decode cX3_glidersInTheAir 42 = .ok (.ireturn, 1) := by decide +kernel
theorem dX3_tugsTaken_0 : decode cX3_tugsTaken 0 = .ok (.iconst 0, 1) := by decide +kernel
theorem dX3_tugsTaken_1 : decode cX3_tugsTaken 1 = .ok (.istore_n 1, 1) := by decide +kernel
theorem dX3_tugsTaken_2 : decode cX3_tugsTaken 2 = .ok (.iconst 0, 1) := by decide +kernel
theorem dX3_tugsTaken_3 : decode cX3_tugsTaken 3 = .ok (.istore_n 2, 1) := by decide +kernel
theorem dX3_tugsTaken_4 : decode cX3_tugsTaken 4 = .ok (.iload_n 2, 1) := by decide +kernel
theorem dX3_tugsTaken_5 : decode cX3_tugsTaken 5 = .ok (.aload_n 0, 1) := by decide +kernel
theorem dX3_tugsTaken_6 : decode cX3_tugsTaken 6 = .ok (.getfield 28, 3) := by decide +kernel
theorem dX3_tugsTaken_9 : decode cX3_tugsTaken 9 = .ok (.arraylength, 1) := by decide +kernel
theorem dX3_tugsTaken_10 : decode cX3_tugsTaken 10 = .ok (.if_icmp .ge 21, 3) := by decide +kernel
theorem dX3_tugsTaken_13 : decode cX3_tugsTaken 13 = .ok (.aload_n 0, 1) := by decide +kernel
theorem dX3_tugsTaken_14 : decode cX3_tugsTaken 14 = .ok (.getfield 28, 3) := by decide +kernel
theorem dX3_tugsTaken_17 : decode cX3_tugsTaken 17 = .ok (.iload_n 2, 1) := by decide +kernel
theorem dX3_tugsTaken_18 : decode cX3_tugsTaken 18 = .ok (.iaload, 1) := by decide +kernel
theorem dX3_tugsTaken_19 : decode cX3_tugsTaken 19 = .ok (.ifCond .eq 6, 3) := by decide +kernel
theorem dX3_tugsTaken_22 : decode cX3_tugsTaken 22 = .ok (.iinc 1 1, 3) := by decide +kernel
theorem dX3_tugsTaken_25 : decode cX3_tugsTaken 25 = .ok (.iinc 2 1, 3) := by decide +kernel
theorem dX3_tugsTaken_28 : decode cX3_tugsTaken 28 = .ok (.goto (-24), 3) := by decide +kernel
theorem dX3_tugsTaken_31 : decode cX3_tugsTaken 31 = .ok (.iload_n 1, 1) := by decide +kernel
theorem dX3_tugsTaken_32 : decode cX3_tugsTaken 32 = .ok (.ireturn, 1) := by decide +kernel
theorem dX3_freeTugs_0 : decode cX3_freeTugs 0 = .ok (.aload_n 0, 1) := by decide +kernel
theorem dX3_freeTugs_1 : decode cX3_freeTugs 1 = .ok (.getfield 32, 3) := by decide +kernel
theorem dX3_freeTugs_4 : decode cX3_freeTugs 4 = .ok (.aload_n 0, 1) := by decide +kernel
theorem dX3_freeTugs_5 : decode cX3_freeTugs 5 = .ok (.invokevirtual 98, 3) := by decide +kernel
theorem dX3_freeTugs_8 : decode cX3_freeTugs 8 = .ok (.isub, 1) := by decide +kernel
theorem dX3_freeTugs_9 : decode cX3_freeTugs 9 = .ok (.ireturn, 1) := by decide +kernel
theorem dX3_hasTeacher_0 : decode cX3_hasTeacher 0 = .ok (.aload_n 0, 1) := by decide +kernel
theorem dX3_hasTeacher_1 : decode cX3_hasTeacher 1 = .ok (.getfield 284, 3) := by decide +kernel
theorem dX3_hasTeacher_4 : decode cX3_hasTeacher 4 = .ok (.ifnull 18, 3) := by decide +kernel
theorem dX3_hasTeacher_7 : decode cX3_hasTeacher 7 = .ok (.aload_n 0, 1) := by decide +kernel
theorem dX3_hasTeacher_8 : decode cX3_hasTeacher 8 = .ok (.getfield 284, 3) := by decide +kernel
theorem dX3_hasTeacher_11 : decode cX3_hasTeacher 11 = .ok (.getfield 132, 3) := by decide +kernel
theorem dX3_hasTeacher_14 : decode cX3_hasTeacher 14 = .ok (.iconst 3, 1) := by decide +kernel
theorem dX3_hasTeacher_15 : decode cX3_hasTeacher 15 = .ok (.if_icmp .ne 7, 3) := by decide +kernel
theorem dX3_hasTeacher_18 : decode cX3_hasTeacher 18 = .ok (.iconst 1, 1) := by decide +kernel
theorem dX3_hasTeacher_19 : decode cX3_hasTeacher 19 = .ok (.goto 4, 3) := by decide +kernel
theorem dX3_hasTeacher_22 : decode cX3_hasTeacher 22 = .ok (.iconst 0, 1) := by decide +kernel
theorem dX3_hasTeacher_23 : decode cX3_hasTeacher 23 = .ok (.ireturn, 1) := by decide +kernel
theorem dX3_needsTeacher_0 : decode cX3_needsTeacher 0 = .ok (.aload_n 0, 1) := by decide +kernel
theorem dX3_needsTeacher_1 : decode cX3_needsTeacher 1 = .ok (.getfield 132, 3) := by decide +kernel
theorem dX3_needsTeacher_4 : decode cX3_needsTeacher 4 = .ok (.ifCond .eq 18, 3) := by decide +kernel
theorem dX3_needsTeacher_7 : decode cX3_needsTeacher 7 = .ok (.aload_n 0, 1) := by decide +kernel
theorem dX3_needsTeacher_8 : decode cX3_needsTeacher 8 = .ok (.getfield 132, 3) := by decide +kernel
theorem dX3_needsTeacher_11 : decode cX3_needsTeacher 11 = .ok (.iconst 1, 1) := by decide +kernel
theorem dX3_needsTeacher_12 : decode cX3_needsTeacher 12 = .ok (.if_icmp .ne 14, 3) := by decide +kernel
theorem dX3_needsTeacher_15 : decode cX3_needsTeacher 15 = .ok (.aload_n 0, 1) := by decide +kernel
theorem dX3_needsTeacher_16 : decode cX3_needsTeacher 16 = .ok (.getfield 271, 3) := by decide +kernel
theorem dX3_needsTeacher_19 : decode cX3_needsTeacher 19 = .ok (.ifCond .ne 7, 3) := by decide +kernel
theorem dX3_needsTeacher_22 : decode cX3_needsTeacher 22 = .ok (.iconst 1, 1) := by decide +kernel
theorem dX3_needsTeacher_23 : decode cX3_needsTeacher 23 = .ok (.goto 4, 3) := by decide +kernel
theorem dX3_needsTeacher_26 : decode cX3_needsTeacher 26 = .ok (.iconst 0, 1) := by decide +kernel
theorem dX3_needsTeacher_27 : decode cX3_needsTeacher 27 = .ok (.ireturn, 1) := by decide +kernel
theorem dX3_windLimitOf_0 : decode cX3_windLimitOf 0 = .ok (.iload_n 0, 1) := by decide +kernel
theorem dX3_windLimitOf_1 : decode cX3_windLimitOf 1 = .ok (.tableswitch 35 0 2 #[27, 29, 32], 27) := by decide +kernel
theorem dX3_windLimitOf_28 : decode cX3_windLimitOf 28 = .ok (.iconst 0, 1) := by decide +kernel
theorem dX3_windLimitOf_29 : decode cX3_windLimitOf 29 = .ok (.ireturn, 1) := by decide +kernel
theorem dX3_windLimitOf_30 : decode cX3_windLimitOf 30 = .ok (.bipush 12, 2) := by decide +kernel
theorem dX3_windLimitOf_32 : decode cX3_windLimitOf 32 = .ok (.ireturn, 1) := by decide +kernel
theorem dX3_windLimitOf_33 : decode cX3_windLimitOf 33 = .ok (.bipush 25, 2) := by decide +kernel
theorem dX3_windLimitOf_35 : decode cX3_windLimitOf 35 = .ok (.ireturn, 1) := by decide +kernel
theorem dX3_windLimitOf_36 : decode cX3_windLimitOf 36 = .ok (.bipush 30, 2) := by decide +kernel
theorem dX3_windLimitOf_38 : decode cX3_windLimitOf 38 = .ok (.ireturn, 1) := by decide +kernel
theorem dX3_hasFlyingMember_0 : decode cX3_hasFlyingMember 0 = .ok (.aload_n 0, 1) := by decide +kernel
theorem dX3_hasFlyingMember_1 : decode cX3_hasFlyingMember 1 = .ok (.getfield 279, 3) := by decide +kernel
theorem dX3_hasFlyingMember_4 : decode cX3_hasFlyingMember 4 = .ok (.getfield 123, 3) := by decide +kernel
theorem dX3_hasFlyingMember_7 : decode cX3_hasFlyingMember 7 = .ok (.ifCond .ne 20, 3) := by decide +kernel
theorem dX3_hasFlyingMember_10 : decode cX3_hasFlyingMember 10 = .ok (.aload_n 0, 1) := by decide +kernel
theorem dX3_hasFlyingMember_11 : decode cX3_hasFlyingMember 11 = .ok (.getfield 284, 3) := by decide +kernel
theorem dX3_hasFlyingMember_14 : decode cX3_hasFlyingMember 14 = .ok (.ifnull 17, 3) := by decide +kernel
theorem dX3_hasFlyingMember_17 : decode cX3_hasFlyingMember 17 = .ok (.aload_n 0, 1) := by decide +kernel
theorem dX3_hasFlyingMember_18 : decode cX3_hasFlyingMember 18 = .ok (.getfield 284, 3) := by decide +kernel
theorem dX3_hasFlyingMember_21 : decode cX3_hasFlyingMember 21 = .ok (.getfield 123, 3) := by decide +kernel
theorem dX3_hasFlyingMember_24 : decode cX3_hasFlyingMember 24 = .ok (.ifCond .eq 7, 3) := by decide +kernel
theorem dX3_hasFlyingMember_27 : decode cX3_hasFlyingMember 27 = .ok (.iconst 1, 1) := by decide +kernel
theorem dX3_hasFlyingMember_28 : decode cX3_hasFlyingMember 28 = .ok (.goto 4, 3) := by decide +kernel
theorem dX3_hasFlyingMember_31 : decode cX3_hasFlyingMember 31 = .ok (.iconst 0, 1) := by decide +kernel
theorem dX3_hasFlyingMember_32 : decode cX3_hasFlyingMember 32 = .ok (.ireturn, 1) := by decide +kernel
theorem dX3_isTooWindyFor_0 : decode cX3_isTooWindyFor 0 = .ok (.aload_n 1, 1) := by decide +kernel
theorem dX3_isTooWindyFor_1 : decode cX3_isTooWindyFor 1 = .ok (.invokestatic 295, 3) := by decide +kernel
theorem dX3_isTooWindyFor_4 : decode cX3_isTooWindyFor 4 = .ok (.ifCond .eq 7, 3) := by decide +kernel
theorem dX3_isTooWindyFor_7 : decode cX3_isTooWindyFor 7 = .ok (.iconst 3, 1) := by decide +kernel
theorem dX3_isTooWindyFor_8 : decode cX3_isTooWindyFor 8 = .ok (.goto 10, 3) := by decide +kernel
theorem dX3_isTooWindyFor_11 : decode cX3_isTooWindyFor 11 = .ok (.aload_n 1, 1) := by decide +kernel
theorem dX3_isTooWindyFor_12 : decode cX3_isTooWindyFor 12 = .ok (.getfield 279, 3) := by decide +kernel
theorem dX3_isTooWindyFor_15 : decode cX3_isTooWindyFor 15 = .ok (.getfield 132, 3) := by decide +kernel
theorem dX3_isTooWindyFor_18 : decode cX3_isTooWindyFor 18 = .ok (.istore_n 2, 1) := by decide +kernel
theorem dX3_isTooWindyFor_19 : decode cX3_isTooWindyFor 19 = .ok (.aload_n 0, 1) := by decide +kernel
theorem dX3_isTooWindyFor_20 : decode cX3_isTooWindyFor 20 = .ok (.getfield 45, 3) := by decide +kernel
theorem dX3_isTooWindyFor_23 : decode cX3_isTooWindyFor 23 = .ok (.aload_n 1, 1) := by decide +kernel
theorem dX3_isTooWindyFor_24 : decode cX3_isTooWindyFor 24 = .ok (.getfield 287, 3) := by decide +kernel
theorem dX3_isTooWindyFor_27 : decode cX3_isTooWindyFor 27 = .ok (.getfield 299, 3) := by decide +kernel
theorem dX3_isTooWindyFor_30 : decode cX3_isTooWindyFor 30 = .ok (.if_icmp .gt 14, 3) := by decide +kernel
theorem dX3_isTooWindyFor_33 : decode cX3_isTooWindyFor 33 = .ok (.aload_n 0, 1) := by decide +kernel
theorem dX3_isTooWindyFor_34 : decode cX3_isTooWindyFor 34 = .ok (.getfield 45, 3) := by decide +kernel
theorem dX3_isTooWindyFor_37 : decode cX3_isTooWindyFor 37 = .ok (.iload_n 2, 1) := by decide +kernel
theorem dX3_isTooWindyFor_38 : decode cX3_isTooWindyFor 38 = .ok (.invokestatic 302, 3) := by decide +kernel
theorem dX3_isTooWindyFor_41 : decode cX3_isTooWindyFor 41 = .ok (.if_icmp .le 7, 3) := by decide +kernel
theorem dX3_isTooWindyFor_44 : decode cX3_isTooWindyFor 44 = .ok (.iconst 1, 1) := by decide +kernel
theorem dX3_isTooWindyFor_45 : decode cX3_isTooWindyFor 45 = .ok (.goto 4, 3) := by decide +kernel
theorem dX3_isTooWindyFor_48 : decode cX3_isTooWindyFor 48 = .ok (.iconst 0, 1) := by decide +kernel
theorem dX3_isTooWindyFor_49 : decode cX3_isTooWindyFor 49 = .ok (.ireturn, 1) := by decide +kernel
theorem dX3_hasNothingToLaunch_0 : decode cX3_hasNothingToLaunch 0 = .ok (.aload_n 1, 1) := by decide +kernel
theorem dX3_hasNothingToLaunch_1 : decode cX3_hasNothingToLaunch 1 = .ok (.getfield 161, 3) := by decide +kernel
theorem dX3_hasNothingToLaunch_4 : decode cX3_hasNothingToLaunch 4 = .ok (.ifCond .ne 19, 3) := by decide +kernel
theorem dX3_hasNothingToLaunch_7 : decode cX3_hasNothingToLaunch 7 = .ok (.aload_n 0, 1) := by decide +kernel
theorem dX3_hasNothingToLaunch_8 : decode cX3_hasNothingToLaunch 8 = .ok (.getfield 36, 3) := by decide +kernel
theorem dX3_hasNothingToLaunch_11 : decode cX3_hasNothingToLaunch 11 = .ok (.iconst 2, 1) := by decide +kernel
theorem dX3_hasNothingToLaunch_12 : decode cX3_hasNothingToLaunch 12 = .ok (.if_icmp .lt 7, 3) := by decide +kernel
theorem dX3_hasNothingToLaunch_15 : decode cX3_hasNothingToLaunch 15 = .ok (.iconst 1, 1) := by decide +kernel
theorem dX3_hasNothingToLaunch_16 : decode cX3_hasNothingToLaunch 16 = .ok (.goto 19, 3) := by decide +kernel
theorem dX3_hasNothingToLaunch_19 : decode cX3_hasNothingToLaunch 19 = .ok (.iconst 0, 1) := by decide +kernel
theorem dX3_hasNothingToLaunch_20 : decode cX3_hasNothingToLaunch 20 = .ok (.goto 15, 3) := by decide +kernel
theorem dX3_hasNothingToLaunch_23 : decode cX3_hasNothingToLaunch 23 = .ok (.aload_n 0, 1) := by decide +kernel
theorem dX3_hasNothingToLaunch_24 : decode cX3_hasNothingToLaunch 24 = .ok (.invokevirtual 103, 3) := by decide +kernel
theorem dX3_hasNothingToLaunch_27 : decode cX3_hasNothingToLaunch 27 = .ok (.ifCond .gt 7, 3) := by decide +kernel
theorem dX3_hasNothingToLaunch_30 : decode cX3_hasNothingToLaunch 30 = .ok (.iconst 1, 1) := by decide +kernel
theorem dX3_hasNothingToLaunch_31 : decode cX3_hasNothingToLaunch 31 = .ok (.goto 4, 3) := by decide +kernel
theorem dX3_hasNothingToLaunch_34 : decode cX3_hasNothingToLaunch 34 = .ok (.iconst 0, 1) := by decide +kernel
theorem dX3_hasNothingToLaunch_35 : decode cX3_hasNothingToLaunch 35 = .ok (.ireturn, 1) := by decide +kernel
theorem dX3_reasonAgainst_0 : decode cX3_reasonAgainst 0 = .ok (.aload_n 1, 1) := by decide +kernel
theorem dX3_reasonAgainst_1 : decode cX3_reasonAgainst 1 = .ok (.getfield 287, 3) := by decide +kernel
theorem dX3_reasonAgainst_4 : decode cX3_reasonAgainst 4 = .ok (.astore_n 2, 1) := by decide +kernel
theorem dX3_reasonAgainst_5 : decode cX3_reasonAgainst 5 = .ok (.aload_n 1, 1) := by decide +kernel
theorem dX3_reasonAgainst_6 : decode cX3_reasonAgainst 6 = .ok (.invokestatic 305, 3) := by decide +kernel
theorem dX3_reasonAgainst_9 : decode cX3_reasonAgainst 9 = .ok (.ifCond .eq 5, 3) := by decide +kernel
theorem dX3_reasonAgainst_12 : decode cX3_reasonAgainst 12 = .ok (.iconst 1, 1) := by decide +kernel
theorem dX3_reasonAgainst_13 : decode cX3_reasonAgainst 13 = .ok (.ireturn, 1) := by decide +kernel
theorem dX3_reasonAgainst_14 : decode cX3_reasonAgainst 14 = .ok (.aload_n 2, 1) := by decide +kernel
theorem dX3_reasonAgainst_15 : decode cX3_reasonAgainst 15 = .ok (.getfield 110, 3) := by decide +kernel
theorem dX3_reasonAgainst_18 : decode cX3_reasonAgainst 18 = .ok (.ifCond .ne 10, 3) := by decide +kernel
theorem dX3_reasonAgainst_21 : decode cX3_reasonAgainst 21 = .ok (.aload_n 2, 1) := by decide +kernel
theorem dX3_reasonAgainst_22 : decode cX3_reasonAgainst 22 = .ok (.getfield 115, 3) := by decide +kernel
theorem dX3_reasonAgainst_25 : decode cX3_reasonAgainst 25 = .ok (.ifCond .eq 5, 3) := by decide +kernel
theorem dX3_reasonAgainst_28 : decode cX3_reasonAgainst 28 = .ok (.iconst 2, 1) := by decide +kernel
theorem dX3_reasonAgainst_29 : decode cX3_reasonAgainst 29 = .ok (.ireturn, 1) := by decide +kernel
theorem dX3_reasonAgainst_30 : decode cX3_reasonAgainst 30 = .ok (.aload_n 1, 1) := by decide +kernel
theorem dX3_reasonAgainst_31 : decode cX3_reasonAgainst 31 = .ok (.getfield 284, 3) := by decide +kernel
theorem dX3_reasonAgainst_34 : decode cX3_reasonAgainst 34 = .ok (.ifnull 13, 3) := by decide +kernel
theorem dX3_reasonAgainst_37 : decode cX3_reasonAgainst 37 = .ok (.aload_n 2, 1) := by decide +kernel
theorem dX3_reasonAgainst_38 : decode cX3_reasonAgainst 38 = .ok (.getfield 308, 3) := by decide +kernel
theorem dX3_reasonAgainst_41 : decode cX3_reasonAgainst 41 = .ok (.iconst 1, 1) := by decide +kernel
theorem dX3_reasonAgainst_42 : decode cX3_reasonAgainst 42 = .ok (.if_icmp .ne 5, 3) := by decide +kernel
theorem dX3_reasonAgainst_45 : decode cX3_reasonAgainst 45 = .ok (.iconst 3, 1) := by decide +kernel
theorem dX3_reasonAgainst_46 : decode cX3_reasonAgainst 46 = .ok (.ireturn, 1) := by decide +kernel
theorem dX3_reasonAgainst_47 : decode cX3_reasonAgainst 47 = .ok (.aload_n 1, 1) := by decide +kernel
theorem dX3_reasonAgainst_48 : decode cX3_reasonAgainst 48 = .ok (.getfield 279, 3) := by decide +kernel
theorem dX3_reasonAgainst_51 : decode cX3_reasonAgainst 51 = .ok (.invokestatic 311, 3) := by decide +kernel
theorem dX3_reasonAgainst_54 : decode cX3_reasonAgainst 54 = .ok (.ifCond .eq 12, 3) := by decide +kernel
theorem dX3_reasonAgainst_57 : decode cX3_reasonAgainst 57 = .ok (.aload_n 1, 1) := by decide +kernel
theorem dX3_reasonAgainst_58 : decode cX3_reasonAgainst 58 = .ok (.invokestatic 295, 3) := by decide +kernel
theorem dX3_reasonAgainst_61 : decode cX3_reasonAgainst 61 = .ok (.ifCond .ne 5, 3) := by decide +kernel
theorem dX3_reasonAgainst_64 : decode cX3_reasonAgainst 64 = .ok (.iconst 4, 1) := by decide +kernel
theorem dX3_reasonAgainst_65 : decode cX3_reasonAgainst 65 = .ok (.ireturn, 1) := by decide +kernel
theorem dX3_reasonAgainst_66 : decode cX3_reasonAgainst 66 = .ok (.aload_n 0, 1) := by decide +kernel
theorem dX3_reasonAgainst_67 : decode cX3_reasonAgainst 67 = .ok (.aload_n 1, 1) := by decide +kernel
theorem dX3_reasonAgainst_68 : decode cX3_reasonAgainst 68 = .ok (.invokevirtual 314, 3) := by decide +kernel
theorem dX3_reasonAgainst_71 : decode cX3_reasonAgainst 71 = .ok (.ifCond .eq 5, 3) := by decide +kernel
theorem dX3_reasonAgainst_74 : decode cX3_reasonAgainst 74 = .ok (.iconst 5, 1) := by decide +kernel
theorem dX3_reasonAgainst_75 : decode cX3_reasonAgainst 75 = .ok (.ireturn, 1) := by decide +kernel
theorem dX3_reasonAgainst_76 : decode cX3_reasonAgainst 76 = .ok (.aload_n 0, 1) := by decide +kernel
theorem dX3_reasonAgainst_77 : decode cX3_reasonAgainst 77 = .ok (.getfield 48, 3) := by decide +kernel
theorem dX3_reasonAgainst_80 : decode cX3_reasonAgainst 80 = .ok (.aload_n 0, 1) := by decide +kernel
theorem dX3_reasonAgainst_81 : decode cX3_reasonAgainst 81 = .ok (.getfield 42, 3) := by decide +kernel
theorem dX3_reasonAgainst_84 : decode cX3_reasonAgainst 84 = .ok (.isub, 1) := by decide +kernel
theorem dX3_reasonAgainst_85 : decode cX3_reasonAgainst 85 = .ok (.bipush 10, 2) := by decide +kernel
theorem dX3_reasonAgainst_87 : decode cX3_reasonAgainst 87 = .ok (.if_icmp .ge 6, 3) := by decide +kernel
theorem dX3_reasonAgainst_90 : decode cX3_reasonAgainst 90 = .ok (.bipush 6, 2) := by decide +kernel
theorem dX3_reasonAgainst_92 : decode cX3_reasonAgainst 92 = .ok (.ireturn, 1) := by decide +kernel
theorem dX3_reasonAgainst_93 : decode cX3_reasonAgainst 93 = .ok (.aload_n 0, 1) := by decide +kernel
theorem dX3_reasonAgainst_94 : decode cX3_reasonAgainst 94 = .ok (.aload_n 1, 1) := by decide +kernel
theorem dX3_reasonAgainst_95 : decode cX3_reasonAgainst 95 = .ok (.invokevirtual 317, 3) := by decide +kernel
theorem dX3_reasonAgainst_98 : decode cX3_reasonAgainst 98 = .ok (.ifCond .eq 6, 3) := by decide +kernel
theorem dX3_reasonAgainst_101 : decode cX3_reasonAgainst 101 = .ok (.bipush 7, 2) := by decide +kernel
theorem dX3_reasonAgainst_103 : decode cX3_reasonAgainst 103 = .ok (.ireturn, 1) := by decide +kernel
theorem dX3_reasonAgainst_104 : decode cX3_reasonAgainst 104 = .ok (.aload_n 0, 1) := by decide +kernel
theorem dX3_reasonAgainst_105 : decode cX3_reasonAgainst 105 = .ok (.invokevirtual 320, 3) := by decide +kernel
theorem dX3_reasonAgainst_108 : decode cX3_reasonAgainst 108 = .ok (.ifCond .eq 8, 3) := by decide +kernel
theorem dX3_reasonAgainst_111 : decode cX3_reasonAgainst 111 = .ok (.bipush 8, 2) := by decide +kernel
theorem dX3_reasonAgainst_113 : decode cX3_reasonAgainst 113 = .ok (.goto 4, 3) := by decide +kernel
theorem dX3_reasonAgainst_116 : decode cX3_reasonAgainst 116 = .ok (.iconst 0, 1) := by decide +kernel
theorem dX3_reasonAgainst_117 : decode cX3_reasonAgainst 117 = .ok (.ireturn, 1) := by decide +kernel
theorem dX3_passMinute_0 : decode cX3_passMinute 0 = .ok (.aload_n 0, 1) := by decide +kernel
theorem dX3_passMinute_1 : decode cX3_passMinute 1 = .ok (.dup, 1) := by decide +kernel
theorem dX3_passMinute_2 : decode cX3_passMinute 2 = .ok (.getfield 42, 3) := by decide +kernel
theorem dX3_passMinute_5 : decode cX3_passMinute 5 = .ok (.iconst 1, 1) := by decide +kernel
theorem dX3_passMinute_6 : decode cX3_passMinute 6 = .ok (.iadd, 1) := by decide +kernel
theorem dX3_passMinute_7 : decode cX3_passMinute 7 = .ok (.putfield 42, 3) := by decide +kernel
theorem dX3_passMinute_10 : decode cX3_passMinute 10 = .ok (.aload_n 0, 1) := by decide +kernel
theorem dX3_passMinute_11 : decode cX3_passMinute 11 = .ok (.invokevirtual 323, 3) := by decide +kernel
theorem dX3_passMinute_14 : decode cX3_passMinute 14 = .ok (.aload_n 0, 1) := by decide +kernel
theorem dX3_passMinute_15 : decode cX3_passMinute 15 = .ok (.invokevirtual 326, 3) := by decide +kernel
theorem dX3_passMinute_18 : decode cX3_passMinute 18 = .ok (.aload_n 0, 1) := by decide +kernel
theorem dX3_passMinute_19 : decode cX3_passMinute 19 = .ok (.invokevirtual 329, 3) := by decide +kernel
theorem dX3_passMinute_22 : decode cX3_passMinute 22 = .ok (.aload_n 0, 1) := by decide +kernel
theorem dX3_passMinute_23 : decode cX3_passMinute 23 = .ok (.invokevirtual 320, 3) := by decide +kernel
theorem dX3_passMinute_26 : decode cX3_passMinute 26 = .ok (.ifCond .ne 7, 3) := by decide +kernel
theorem dX3_passMinute_29 : decode cX3_passMinute 29 = .ok (.aload_n 0, 1) := by decide +kernel
theorem dX3_passMinute_30 : decode cX3_passMinute 30 = .ok (.invokevirtual 332, 3) := by decide +kernel
theorem dX3_passMinute_33 : decode cX3_passMinute 33 = .ok (.aload_n 0, 1) := by decide +kernel
theorem dX3_passMinute_34 : decode cX3_passMinute 34 = .ok (.invokevirtual 320, 3) := by decide +kernel
theorem dX3_passMinute_37 : decode cX3_passMinute 37 = .ok (.ifCond .ne 14, 3) := by decide +kernel
theorem dX3_passMinute_40 : decode cX3_passMinute 40 = .ok (.aload_n 0, 1) := by decide +kernel
theorem dX3_passMinute_41 : decode cX3_passMinute 41 = .ok (.invokevirtual 335, 3) := by decide +kernel
theorem dX3_passMinute_44 : decode cX3_passMinute 44 = .ok (.ifCond .eq 7, 3) := by decide +kernel
theorem dX3_passMinute_47 : decode cX3_passMinute 47 = .ok (.iconst 1, 1) := by decide +kernel
theorem dX3_passMinute_48 : decode cX3_passMinute 48 = .ok (.goto 4, 3) := by decide +kernel
theorem dX3_passMinute_51 : decode cX3_passMinute 51 = .ok (.iconst 0, 1) := by decide +kernel
theorem dX3_passMinute_52 : decode cX3_passMinute 52 = .ok (.ireturn, 1) := by decide +kernel
theorem dX3_freeCables_0 : decode cX3_freeCables 0 = .ok (.aload_n 0, 1) := by decide +kernel
theorem dX3_freeCables_1 : decode cX3_freeCables 1 = .ok (.getfield 36, 3) := by decide +kernel
theorem dX3_freeCables_4 : decode cX3_freeCables 4 = .ok (.iconst 2, 1) := by decide +kernel
theorem dX3_freeCables_5 : decode cX3_freeCables 5 = .ok (.if_icmp .lt 19, 3) := by decide +kernel
theorem dX3_freeCables_8 : decode cX3_freeCables 8 = .ok (.aload_n 0, 1) := by decide +kernel
theorem dX3_freeCables_9 : decode cX3_freeCables 9 = .ok (.getfield 42, 3) := by decide +kernel
theorem dX3_freeCables_12 : decode cX3_freeCables 12 = .ok (.aload_n 0, 1) := by decide +kernel
theorem dX3_freeCables_13 : decode cX3_freeCables 13 = .ok (.getfield 39, 3) := by decide +kernel
theorem dX3_freeCables_16 : decode cX3_freeCables 16 = .ok (.if_icmp .lt 8, 3) := by decide +kernel
theorem dX3_freeCables_19 : decode cX3_freeCables 19 = .ok (.aload_n 0, 1) := by decide +kernel
theorem dX3_freeCables_20 : decode cX3_freeCables 20 = .ok (.iconst 0, 1) := by decide +kernel
theorem dX3_freeCables_21 : decode cX3_freeCables 21 = .ok (.putfield 36, 3) := by decide +kernel
theorem dX3_freeCables_24 : decode cX3_freeCables 24 = .ok (.return_, 1) := by decide +kernel
theorem dX3_freeDueTugs_0 : decode cX3_freeDueTugs 0 = .ok (.iconst 0, 1) := by decide +kernel
theorem dX3_freeDueTugs_1 : decode cX3_freeDueTugs 1 = .ok (.istore_n 1, 1) := by decide +kernel
theorem dX3_freeDueTugs_2 : decode cX3_freeDueTugs 2 = .ok (.iload_n 1, 1) := by decide +kernel
theorem dX3_freeDueTugs_3 : decode cX3_freeDueTugs 3 = .ok (.aload_n 0, 1) := by decide +kernel
theorem dX3_freeDueTugs_4 : decode cX3_freeDueTugs 4 = .ok (.getfield 28, 3) := by decide +kernel
theorem dX3_freeDueTugs_7 : decode cX3_freeDueTugs 7 = .ok (.arraylength, 1) := by decide +kernel
theorem dX3_freeDueTugs_8 : decode cX3_freeDueTugs 8 = .ok (.if_icmp .ge 29, 3) := by decide +kernel
theorem dX3_freeDueTugs_11 : decode cX3_freeDueTugs 11 = .ok (.aload_n 0, 1) := by decide +kernel
theorem dX3_freeDueTugs_12 : decode cX3_freeDueTugs 12 = .ok (.getfield 42, 3) := by decide +kernel
theorem dX3_freeDueTugs_15 : decode cX3_freeDueTugs 15 = .ok (.aload_n 0, 1) := by decide +kernel
theorem dX3_freeDueTugs_16 : decode cX3_freeDueTugs 16 = .ok (.getfield 28, 3) := by decide +kernel
theorem dX3_freeDueTugs_19 : decode cX3_freeDueTugs 19 = .ok (.iload_n 1, 1) := by decide +kernel
theorem dX3_freeDueTugs_20 : decode cX3_freeDueTugs 20 = .ok (.iaload, 1) := by decide +kernel
theorem dX3_freeDueTugs_21 : decode cX3_freeDueTugs 21 = .ok (.if_icmp .lt 10, 3) := by decide +kernel
theorem dX3_freeDueTugs_24 : decode cX3_freeDueTugs 24 = .ok (.aload_n 0, 1) := by decide +kernel
theorem dX3_freeDueTugs_25 : decode cX3_freeDueTugs 25 = .ok (.getfield 28, 3) := by decide +kernel
theorem dX3_freeDueTugs_28 : decode cX3_freeDueTugs 28 = .ok (.iload_n 1, 1) := by decide +kernel
theorem dX3_freeDueTugs_29 : decode cX3_freeDueTugs 29 = .ok (.iconst 0, 1) := by decide +kernel
theorem dX3_freeDueTugs_30 : decode cX3_freeDueTugs 30 = .ok (.iastore, 1) := by decide +kernel
theorem dX3_freeDueTugs_31 : decode cX3_freeDueTugs 31 = .ok (.iinc 1 1, 3) := by decide +kernel
theorem dX3_freeDueTugs_34 : decode cX3_freeDueTugs 34 = .ok (.goto (-32), 3) := by decide +kernel
theorem dX3_freeDueTugs_37 : decode cX3_freeDueTugs 37 = .ok (.return_, 1) := by decide +kernel
theorem dX3_beginToWait_0 : decode cX3_beginToWait 0 = .ok (.iconst 0, 1) := by decide +kernel
theorem dX3_beginToWait_1 : decode cX3_beginToWait 1 = .ok (.istore_n 1, 1) := by decide +kernel
theorem dX3_beginToWait_2 : decode cX3_beginToWait 2 = .ok (.iload_n 1, 1) := by decide +kernel
theorem dX3_beginToWait_3 : decode cX3_beginToWait 3 = .ok (.aload_n 0, 1) := by decide +kernel
theorem dX3_beginToWait_4 : decode cX3_beginToWait 4 = .ok (.getfield 16, 3) := by decide +kernel
theorem dX3_beginToWait_7 : decode cX3_beginToWait 7 = .ok (.invokevirtual 65, 3) := by decide +kernel
theorem dX3_beginToWait_10 : decode cX3_beginToWait 10 = .ok (.if_icmp .ge 51, 3) := by decide +kernel
theorem dX3_beginToWait_13 : decode cX3_beginToWait 13 = .ok (.aload_n 0, 1) := by decide +kernel
theorem dX3_beginToWait_14 : decode cX3_beginToWait 14 = .ok (.getfield 16, 3) := by decide +kernel
theorem dX3_beginToWait_17 : decode cX3_beginToWait 17 = .ok (.iload_n 1, 1) := by decide +kernel
theorem dX3_beginToWait_18 : decode cX3_beginToWait 18 = .ok (.invokevirtual 188, 3) := by decide +kernel
theorem dX3_beginToWait_21 : decode cX3_beginToWait 21 = .ok (.checkcast 87, 3) := by decide +kernel
theorem dX3_beginToWait_24 : decode cX3_beginToWait 24 = .ok (.astore_n 2, 1) := by decide +kernel
theorem dX3_beginToWait_25 : decode cX3_beginToWait 25 = .ok (.aload_n 2, 1) := by decide +kernel
theorem dX3_beginToWait_26 : decode cX3_beginToWait 26 = .ok (.getfield 110, 3) := by decide +kernel
theorem dX3_beginToWait_29 : decode cX3_beginToWait 29 = .ok (.iconst 1, 1) := by decide +kernel
theorem dX3_beginToWait_30 : decode cX3_beginToWait 30 = .ok (.if_icmp .ne 25, 3) := by decide +kernel
theorem dX3_beginToWait_33 : decode cX3_beginToWait 33 = .ok (.aload_n 0, 1) := by decide +kernel
theorem dX3_beginToWait_34 : decode cX3_beginToWait 34 = .ok (.aload_n 2, 1) := by decide +kernel
theorem dX3_beginToWait_35 : decode cX3_beginToWait 35 = .ok (.invokevirtual 338, 3) := by decide +kernel
theorem dX3_beginToWait_38 : decode cX3_beginToWait 38 = .ok (.ifCond .eq 17, 3) := by decide +kernel
theorem dX3_beginToWait_41 : decode cX3_beginToWait 41 = .ok (.aload_n 2, 1) := by decide +kernel
theorem dX3_beginToWait_42 : decode cX3_beginToWait 42 = .ok (.iconst 2, 1) := by decide +kernel
theorem dX3_beginToWait_43 : decode cX3_beginToWait 43 = .ok (.putfield 110, 3) := by decide +kernel
theorem dX3_beginToWait_46 : decode cX3_beginToWait 46 = .ok (.aload_n 0, 1) := by decide +kernel
theorem dX3_beginToWait_47 : decode cX3_beginToWait 47 = .ok (.getfield 25, 3) := by decide +kernel
theorem dX3_beginToWait_50 : decode cX3_beginToWait 50 = .ok (.aload_n 2, 1) := by decide +kernel
theorem dX3_beginToWait_51 : decode cX3_beginToWait 51 = .ok (.invokevirtual 79, 3) := by decide +kernel
theorem dX3_beginToWait_54 : decode cX3_beginToWait 54 = .ok (.pop, 1) := by decide +kernel
theorem dX3_beginToWait_55 : decode cX3_beginToWait 55 = .ok (.iinc 1 1, 3) := by decide +kernel
theorem dX3_beginToWait_58 : decode cX3_beginToWait 58 = .ok (.goto (-56), 3) := by decide +kernel
theorem dX3_beginToWait_61 : decode cX3_beginToWait 61 = .ok (.return_, 1) := by decide +kernel
theorem dX3_mustLand_0 : decode cX3_mustLand 0 = .ok (.aload_n 1, 1) := by decide +kernel
theorem dX3_mustLand_1 : decode cX3_mustLand 1 = .ok (.getfield 195, 3) := by decide +kernel
theorem dX3_mustLand_4 : decode cX3_mustLand 4 = .ok (.astore_n 2, 1) := by decide +kernel
theorem dX3_mustLand_5 : decode cX3_mustLand 5 = .ok (.aload_n 2, 1) := by decide +kernel
theorem dX3_mustLand_6 : decode cX3_mustLand 6 = .ok (.ifnull 41, 3) := by decide +kernel
theorem dX3_mustLand_9 : decode cX3_mustLand 9 = .ok (.aload_n 1, 1) := by decide +kernel
theorem dX3_mustLand_10 : decode cX3_mustLand 10 = .ok (.getfield 201, 3) := by decide +kernel
theorem dX3_mustLand_13 : decode cX3_mustLand 13 = .ok (.ifCond .ne 30, 3) := by decide +kernel
theorem dX3_mustLand_16 : decode cX3_mustLand 16 = .ok (.aload_n 0, 1) := by decide +kernel
theorem dX3_mustLand_17 : decode cX3_mustLand 17 = .ok (.getfield 42, 3) := by decide +kernel
theorem dX3_mustLand_20 : decode cX3_mustLand 20 = .ok (.aload_n 0, 1) := by decide +kernel
theorem dX3_mustLand_21 : decode cX3_mustLand 21 = .ok (.getfield 48, 3) := by decide +kernel
theorem dX3_mustLand_24 : decode cX3_mustLand 24 = .ok (.if_icmp .ge 19, 3) := by decide +kernel
theorem dX3_mustLand_27 : decode cX3_mustLand 27 = .ok (.aload_n 0, 1) := by decide +kernel
theorem dX3_mustLand_28 : decode cX3_mustLand 28 = .ok (.getfield 42, 3) := by decide +kernel
theorem dX3_mustLand_31 : decode cX3_mustLand 31 = .ok (.aload_n 2, 1) := by decide +kernel
theorem dX3_mustLand_32 : decode cX3_mustLand 32 = .ok (.getfield 204, 3) := by decide +kernel
theorem dX3_mustLand_35 : decode cX3_mustLand 35 = .ok (.isub, 1) := by decide +kernel
theorem dX3_mustLand_36 : decode cX3_mustLand 36 = .ok (.aload_n 2, 1) := by decide +kernel
theorem dX3_mustLand_37 : decode cX3_mustLand 37 = .ok (.getfield 164, 3) := by decide +kernel
theorem dX3_mustLand_40 : decode cX3_mustLand 40 = .ok (.if_icmp .lt 7, 3) := by decide +kernel
theorem dX3_mustLand_43 : decode cX3_mustLand 43 = .ok (.iconst 1, 1) := by decide +kernel
theorem dX3_mustLand_44 : decode cX3_mustLand 44 = .ok (.goto 4, 3) := by decide +kernel
theorem dX3_mustLand_47 : decode cX3_mustLand 47 = .ok (.iconst 0, 1) := by decide +kernel
theorem dX3_mustLand_48 : decode cX3_mustLand 48 = .ok (.ireturn, 1) := by decide +kernel
theorem dX3_landFirstWaiting_0 : decode cX3_landFirstWaiting 0 = .ok (.aload_n 0, 1) := by decide +kernel
theorem dX3_landFirstWaiting_1 : decode cX3_landFirstWaiting 1 = .ok (.getfield 25, 3) := by decide +kernel
theorem dX3_landFirstWaiting_4 : decode cX3_landFirstWaiting 4 = .ok (.invokevirtual 342, 3) := by decide +kernel
theorem dX3_landFirstWaiting_7 : decode cX3_landFirstWaiting 7 = .ok (.ifCond .ne 30, 3) := by decide +kernel
theorem dX3_landFirstWaiting_10 : decode cX3_landFirstWaiting 10 = .ok (.aload_n 0, 1) := by decide +kernel
theorem dX3_landFirstWaiting_11 : decode cX3_landFirstWaiting 11 = .ok (.getfield 25, 3) := by decide +kernel
theorem dX3_landFirstWaiting_14 : decode cX3_landFirstWaiting 14 = .ok (.iconst 0, 1) := by decide +kernel
theorem dX3_landFirstWaiting_15 : decode cX3_landFirstWaiting 15 = .ok (.invokevirtual 264, 3) := by decide +kernel
theorem dX3_landFirstWaiting_18 : decode cX3_landFirstWaiting 18 = .ok (.checkcast 87, 3) := by decide +kernel
theorem dX3_landFirstWaiting_21 : decode cX3_landFirstWaiting 21 = .ok (.astore_n 1, 1) := by decide +kernel
theorem dX3_landFirstWaiting_22 : decode cX3_landFirstWaiting 22 = .ok (.aload_n 1, 1) := by decide +kernel
theorem dX3_landFirstWaiting_23 : decode cX3_landFirstWaiting 23 = .ok (.getfield 195, 3) := by decide +kernel
theorem dX3_landFirstWaiting_26 : decode cX3_landFirstWaiting 26 = .ok (.astore_n 2, 1) := by decide +kernel
theorem dX3_landFirstWaiting_27 : decode cX3_landFirstWaiting 27 = .ok (.aload_n 2, 1) := by decide +kernel
theorem dX3_landFirstWaiting_28 : decode cX3_landFirstWaiting 28 = .ok (.ifnull 9, 3) := by decide +kernel
theorem dX3_landFirstWaiting_31 : decode cX3_landFirstWaiting 31 = .ok (.aload_n 0, 1) := by decide +kernel
theorem dX3_landFirstWaiting_32 : decode cX3_landFirstWaiting 32 = .ok (.aload_n 1, 1) := by decide +kernel
theorem dX3_landFirstWaiting_33 : decode cX3_landFirstWaiting 33 = .ok (.aload_n 2, 1) := by decide +kernel
theorem dX3_landFirstWaiting_34 : decode cX3_landFirstWaiting 34 = .ok (.invokevirtual 345, 3) := by decide +kernel
theorem dX3_landFirstWaiting_37 : decode cX3_landFirstWaiting 37 = .ok (.return_, 1) := by decide +kernel
theorem dX3_land_0 : decode cX3_land 0 = .ok (.aload_n 0, 1) := by decide +kernel
theorem dX3_land_1 : decode cX3_land 1 = .ok (.getfield 42, 3) := by decide +kernel
theorem dX3_land_4 : decode cX3_land 4 = .ok (.aload_n 2, 1) := by decide +kernel
theorem dX3_land_5 : decode cX3_land 5 = .ok (.getfield 204, 3) := by decide +kernel
theorem dX3_land_8 : decode cX3_land 8 = .ok (.isub, 1) := by decide +kernel
theorem dX3_land_9 : decode cX3_land 9 = .ok (.istore_n 3, 1) := by decide +kernel
theorem dX3_land_10 : decode cX3_land 10 = .ok (.aload_n 2, 1) := by decide +kernel
theorem dX3_land_11 : decode cX3_land 11 = .ok (.iconst 2, 1) := by decide +kernel
theorem dX3_land_12 : decode cX3_land 12 = .ok (.putfield 185, 3) := by decide +kernel
theorem dX3_land_15 : decode cX3_land 15 = .ok (.aload_n 2, 1) := by decide +kernel
theorem dX3_land_16 : decode cX3_land 16 = .ok (.aload_n 0, 1) := by decide +kernel
theorem dX3_land_17 : decode cX3_land 17 = .ok (.getfield 42, 3) := by decide +kernel
theorem dX3_land_20 : decode cX3_land 20 = .ok (.putfield 235, 3) := by decide +kernel
theorem dX3_land_23 : decode cX3_land 23 = .ok (.aload_n 2, 1) := by decide +kernel
theorem dX3_land_24 : decode cX3_land 24 = .ok (.aload_n 2, 1) := by decide +kernel
theorem dX3_land_25 : decode cX3_land 25 = .ok (.getfield 161, 3) := by decide +kernel
theorem dX3_land_28 : decode cX3_land 28 = .ok (.invokestatic 349, 3) := by decide +kernel
theorem dX3_land_31 : decode cX3_land 31 = .ok (.aload_n 1, 1) := by decide +kernel
theorem dX3_land_32 : decode cX3_land 32 = .ok (.getfield 352, 3) := by decide +kernel
theorem dX3_land_35 : decode cX3_land 35 = .ok (.iload_n 3, 1) := by decide +kernel
theorem dX3_land_36 : decode cX3_land 36 = .ok (.sipush 180, 3) := by decide +kernel
theorem dX3_land_39 : decode cX3_land 39 = .ok (.invokestatic 355, 3) := by decide +kernel
theorem dX3_land_42 : decode cX3_land 42 = .ok (.imul, 1) := by decide +kernel
theorem dX3_land_43 : decode cX3_land 43 = .ok (.iadd, 1) := by decide +kernel
theorem dX3_land_44 : decode cX3_land 44 = .ok (.putfield 232, 3) := by decide +kernel
theorem dX3_land_47 : decode cX3_land 47 = .ok (.aload_n 1, 1) := by decide +kernel
theorem dX3_land_48 : decode cX3_land 48 = .ok (.iconst 0, 1) := by decide +kernel
theorem dX3_land_49 : decode cX3_land 49 = .ok (.putfield 110, 3) := by decide +kernel
theorem dX3_land_52 : decode cX3_land 52 = .ok (.aload_n 1, 1) := by decide +kernel
theorem dX3_land_53 : decode cX3_land 53 = .ok (.aconst_null, 1) := by decide +kernel
theorem dX3_land_54 : decode cX3_land 54 = .ok (.putfield 195, 3) := by decide +kernel
theorem dX3_land_57 : decode cX3_land 57 = .ok (.aload_n 1, 1) := by decide +kernel
theorem dX3_land_58 : decode cX3_land 58 = .ok (.iconst 0, 1) := by decide +kernel
theorem dX3_land_59 : decode cX3_land 59 = .ok (.putfield 201, 3) := by decide +kernel
theorem dX3_land_62 : decode cX3_land 62 = .ok (.aload_n 1, 1) := by decide +kernel
theorem dX3_land_63 : decode cX3_land 63 = .ok (.dup, 1) := by decide +kernel
theorem dX3_land_64 : decode cX3_land 64 = .ok (.getfield 277, 3) := by decide +kernel
theorem dX3_land_67 : decode cX3_land 67 = .ok (.iconst 1, 1) := by decide +kernel
theorem dX3_land_68 : decode cX3_land 68 = .ok (.iadd, 1) := by decide +kernel
theorem dX3_land_69 : decode cX3_land 69 = .ok (.putfield 277, 3) := by decide +kernel
theorem dX3_land_72 : decode cX3_land 72 = .ok (.aload_n 1, 1) := by decide +kernel
theorem dX3_land_73 : decode cX3_land 73 = .ok (.dup, 1) := by decide +kernel
theorem dX3_land_74 : decode cX3_land 74 = .ok (.getfield 278, 3) := by decide +kernel
theorem dX3_land_77 : decode cX3_land 77 = .ok (.iload_n 3, 1) := by decide +kernel
theorem dX3_land_78 : decode cX3_land 78 = .ok (.iadd, 1) := by decide +kernel
theorem dX3_land_79 : decode cX3_land 79 = .ok (.putfield 278, 3) := by decide +kernel
theorem dX3_land_82 : decode cX3_land 82 = .ok (.aload_n 2, 1) := by decide +kernel
theorem dX3_land_83 : decode cX3_land 83 = .ok (.iload_n 3, 1) := by decide +kernel
theorem dX3_land_84 : decode cX3_land 84 = .ok (.invokestatic 361, 3) := by decide +kernel
theorem dX3_land_87 : decode cX3_land 87 = .ok (.aload_n 0, 1) := by decide +kernel
theorem dX3_land_88 : decode cX3_land 88 = .ok (.aload_n 0, 1) := by decide +kernel
theorem dX3_land_89 : decode cX3_land 89 = .ok (.getfield 42, 3) := by decide +kernel
theorem dX3_land_92 : decode cX3_land 92 = .ok (.iconst 2, 1) := by decide +kernel
theorem dX3_land_93 : decode cX3_land 93 = .ok (.iadd, 1) := by decide +kernel
theorem dX3_land_94 : decode cX3_land 94 = .ok (.putfield 51, 3) := by decide +kernel
theorem dX3_land_97 : decode cX3_land 97 = .ok (.return_, 1) := by decide +kernel
theorem dX3_launchPrice_0 : decode cX3_launchPrice 0 = .ok (.iload_n 0, 1) := by decide +kernel
theorem dX3_launchPrice_1 : decode cX3_launchPrice 1 = .ok (.ifCond .ne 8, 3) := by decide +kernel
theorem dX3_launchPrice_4 : decode cX3_launchPrice 4 = .ok (.bipush 8, 2) := by decide +kernel
theorem dX3_launchPrice_6 : decode cX3_launchPrice 6 = .ok (.goto 7, 3) := by decide +kernel
theorem dX3_launchPrice_9 : decode cX3_launchPrice 9 = .ok (.iload_n 0, 1) := by decide +kernel
theorem dX3_launchPrice_10 : decode cX3_launchPrice 10 = .ok (.bipush 20, 2) := by decide +kernel
theorem dX3_launchPrice_12 : decode cX3_launchPrice 12 = .ok (.idiv, 1) := by decide +kernel
theorem dX3_launchPrice_13 : decode cX3_launchPrice 13 = .ok (.ireturn, 1) := by decide +kernel
theorem dX3_writeDown_0 : decode cX3_writeDown 0 = .ok (.aload_n 0, 1) := by decide +kernel
theorem dX3_writeDown_1 : decode cX3_writeDown 1 = .ok (.getfield 279, 3) := by decide +kernel
theorem dX3_writeDown_4 : decode cX3_writeDown 4 = .ok (.astore_n 2, 1) := by decide +kernel
theorem dX3_writeDown_5 : decode cX3_writeDown 5 = .ok (.aload_n 0, 1) := by decide +kernel
theorem dX3_writeDown_6 : decode cX3_writeDown 6 = .ok (.getfield 284, 3) := by decide +kernel
theorem dX3_writeDown_9 : decode cX3_writeDown 9 = .ok (.astore_n 3, 1) := by decide +kernel
theorem dX3_writeDown_10 : decode cX3_writeDown 10 = .ok (.aload_n 2, 1) := by decide +kernel
theorem dX3_writeDown_11 : decode cX3_writeDown 11 = .ok (.dup, 1) := by decide +kernel
theorem dX3_writeDown_12 : decode cX3_writeDown 12 = .ok (.getfield 226, 3) := by decide +kernel
theorem dX3_writeDown_15 : decode cX3_writeDown 15 = .ok (.aload_n 0, 1) := by decide +kernel
theorem dX3_writeDown_16 : decode cX3_writeDown 16 = .ok (.getfield 232, 3) := by decide +kernel
theorem dX3_writeDown_19 : decode cX3_writeDown 19 = .ok (.iadd, 1) := by decide +kernel
theorem dX3_writeDown_20 : decode cX3_writeDown 20 = .ok (.putfield 226, 3) := by decide +kernel
theorem dX3_writeDown_23 : decode cX3_writeDown 23 = .ok (.aload_n 2, 1) := by decide +kernel
theorem dX3_writeDown_24 : decode cX3_writeDown 24 = .ok (.iload_n 1, 1) := by decide +kernel
theorem dX3_writeDown_25 : decode cX3_writeDown 25 = .ok (.invokestatic 365, 3) := by decide +kernel
theorem dX3_writeDown_28 : decode cX3_writeDown 28 = .ok (.aload_n 3, 1) := by decide +kernel
theorem dX3_writeDown_29 : decode cX3_writeDown 29 = .ok (.ifnonnull 16, 3) := by decide +kernel
theorem dX3_writeDown_32 : decode cX3_writeDown 32 = .ok (.aload_n 2, 1) := by decide +kernel
theorem dX3_writeDown_33 : decode cX3_writeDown 33 = .ok (.dup, 1) := by decide +kernel
theorem dX3_writeDown_34 : decode cX3_writeDown 34 = .ok (.getfield 274, 3) := by decide +kernel
theorem dX3_writeDown_37 : decode cX3_writeDown 37 = .ok (.iconst 1, 1) := by decide +kernel
theorem dX3_writeDown_38 : decode cX3_writeDown 38 = .ok (.iadd, 1) := by decide +kernel
theorem dX3_writeDown_39 : decode cX3_writeDown 39 = .ok (.putfield 274, 3) := by decide +kernel
theorem dX3_writeDown_42 : decode cX3_writeDown 42 = .ok (.goto 26, 3) := by decide +kernel
theorem dX3_writeDown_45 : decode cX3_writeDown 45 = .ok (.aload_n 3, 1) := by decide +kernel
theorem dX3_writeDown_46 : decode cX3_writeDown 46 = .ok (.iload_n 1, 1) := by decide +kernel
theorem dX3_writeDown_47 : decode cX3_writeDown 47 = .ok (.invokestatic 365, 3) := by decide +kernel
theorem dX3_writeDown_50 : decode cX3_writeDown 50 = .ok (.aload_n 3, 1) := by decide +kernel
theorem dX3_writeDown_51 : decode cX3_writeDown 51 = .ok (.getfield 132, 3) := by decide +kernel
theorem dX3_writeDown_54 : decode cX3_writeDown 54 = .ok (.iconst 3, 1) := by decide +kernel
theorem dX3_writeDown_55 : decode cX3_writeDown 55 = .ok (.if_icmp .ne 13, 3) := by decide +kernel
theorem dX3_writeDown_58 : decode cX3_writeDown 58 = .ok (.aload_n 2, 1) := by decide +kernel
theorem dX3_writeDown_59 : decode cX3_writeDown 59 = .ok (.dup, 1) := by decide +kernel
theorem dX3_writeDown_60 : decode cX3_writeDown 60 = .ok (.getfield 271, 3) := by decide +kernel
theorem dX3_writeDown_63 : decode cX3_writeDown 63 = .ok (.iconst 1, 1) := by decide +kernel
theorem dX3_writeDown_64 : decode cX3_writeDown 64 = .ok (.iadd, 1) := by decide +kernel
theorem dX3_writeDown_65 : decode cX3_writeDown 65 = .ok (.putfield 271, 3) := by decide +kernel
theorem dX3_writeDown_68 : decode cX3_writeDown 68 = .ok (.return_, 1) := by decide +kernel
theorem dX3_bringDown_0 : decode cX3_bringDown 0 = .ok (.aload_n 0, 1) := by decide +kernel
theorem dX3_bringDown_1 : decode cX3_bringDown 1 = .ok (.iconst 0, 1) := by decide +kernel
theorem dX3_bringDown_2 : decode cX3_bringDown 2 = .ok (.putfield 123, 3) := by decide +kernel
theorem dX3_bringDown_5 : decode cX3_bringDown 5 = .ok (.aload_n 0, 1) := by decide +kernel
theorem dX3_bringDown_6 : decode cX3_bringDown 6 = .ok (.dup, 1) := by decide +kernel
theorem dX3_bringDown_7 : decode cX3_bringDown 7 = .ok (.getfield 267, 3) := by decide +kernel
theorem dX3_bringDown_10 : decode cX3_bringDown 10 = .ok (.iconst 1, 1) := by decide +kernel
theorem dX3_bringDown_11 : decode cX3_bringDown 11 = .ok (.iadd, 1) := by decide +kernel
theorem dX3_bringDown_12 : decode cX3_bringDown 12 = .ok (.putfield 267, 3) := by decide +kernel
theorem dX3_bringDown_15 : decode cX3_bringDown 15 = .ok (.aload_n 0, 1) := by decide +kernel
theorem dX3_bringDown_16 : decode cX3_bringDown 16 = .ok (.dup, 1) := by decide +kernel
theorem dX3_bringDown_17 : decode cX3_bringDown 17 = .ok (.getfield 270, 3) := by decide +kernel
theorem dX3_bringDown_20 : decode cX3_bringDown 20 = .ok (.iload_n 1, 1) := by decide +kernel
theorem dX3_bringDown_21 : decode cX3_bringDown 21 = .ok (.iadd, 1) := by decide +kernel
theorem dX3_bringDown_22 : decode cX3_bringDown 22 = .ok (.putfield 270, 3) := by decide +kernel
theorem dX3_bringDown_25 : decode cX3_bringDown 25 = .ok (.return_, 1) := by decide +kernel
theorem dX3_startFirstThatCan_0 : decode cX3_startFirstThatCan 0 = .ok (.iconst 0, 1) := by decide +kernel
theorem dX3_startFirstThatCan_1 : decode cX3_startFirstThatCan 1 = .ok (.istore_n 1, 1) := by decide +kernel
theorem dX3_startFirstThatCan_2 : decode cX3_startFirstThatCan 2 = .ok (.iload_n 1, 1) := by decide +kernel
theorem dX3_startFirstThatCan_3 : decode cX3_startFirstThatCan 3 = .ok (.aload_n 0, 1) := by decide +kernel
theorem dX3_startFirstThatCan_4 : decode cX3_startFirstThatCan 4 = .ok (.getfield 22, 3) := by decide +kernel
theorem dX3_startFirstThatCan_7 : decode cX3_startFirstThatCan 7 = .ok (.invokevirtual 65, 3) := by decide +kernel
theorem dX3_startFirstThatCan_10 : decode cX3_startFirstThatCan 10 = .ok (.if_icmp .ge 41, 3) := by decide +kernel
theorem dX3_startFirstThatCan_13 : decode cX3_startFirstThatCan 13 = .ok (.aload_n 0, 1) := by decide +kernel
theorem dX3_startFirstThatCan_14 : decode cX3_startFirstThatCan 14 = .ok (.getfield 22, 3) := by decide +kernel
theorem dX3_startFirstThatCan_17 : decode cX3_startFirstThatCan 17 = .ok (.iload_n 1, 1) := by decide +kernel
theorem dX3_startFirstThatCan_18 : decode cX3_startFirstThatCan 18 = .ok (.invokevirtual 188, 3) := by decide +kernel
theorem dX3_startFirstThatCan_21 : decode cX3_startFirstThatCan 21 = .ok (.checkcast 156, 3) := by decide +kernel
theorem dX3_startFirstThatCan_24 : decode cX3_startFirstThatCan 24 = .ok (.astore_n 2, 1) := by decide +kernel
theorem dX3_startFirstThatCan_25 : decode cX3_startFirstThatCan 25 = .ok (.aload_n 0, 1) := by decide +kernel
theorem dX3_startFirstThatCan_26 : decode cX3_startFirstThatCan 26 = .ok (.aload_n 2, 1) := by decide +kernel
theorem dX3_startFirstThatCan_27 : decode cX3_startFirstThatCan 27 = .ok (.invokevirtual 192, 3) := by decide +kernel
theorem dX3_startFirstThatCan_30 : decode cX3_startFirstThatCan 30 = .ok (.ifCond .ne 15, 3) := by decide +kernel
theorem dX3_startFirstThatCan_33 : decode cX3_startFirstThatCan 33 = .ok (.aload_n 0, 1) := by decide +kernel
theorem dX3_startFirstThatCan_34 : decode cX3_startFirstThatCan 34 = .ok (.iload_n 1, 1) := by decide +kernel
theorem dX3_startFirstThatCan_35 : decode cX3_startFirstThatCan 35 = .ok (.invokevirtual 181, 3) := by decide +kernel
theorem dX3_startFirstThatCan_38 : decode cX3_startFirstThatCan 38 = .ok (.aload_n 0, 1) := by decide +kernel
theorem dX3_startFirstThatCan_39 : decode cX3_startFirstThatCan 39 = .ok (.aload_n 2, 1) := by decide +kernel
theorem dX3_startFirstThatCan_40 : decode cX3_startFirstThatCan 40 = .ok (.invokevirtual 369, 3) := by decide +kernel
theorem dX3_startFirstThatCan_43 : decode cX3_startFirstThatCan 43 = .ok (.iconst 1, 1) := by decide +kernel
theorem dX3_startFirstThatCan_44 : decode cX3_startFirstThatCan 44 = .ok (.ireturn, 1) := by decide +kernel
theorem dX3_startFirstThatCan_45 : decode cX3_startFirstThatCan 45 = .ok (.iinc 1 1, 3) := by decide +kernel
theorem dX3_startFirstThatCan_48 : decode cX3_startFirstThatCan 48 = .ok (.goto (-46), 3) := by decide +kernel
theorem dX3_startFirstThatCan_51 : decode cX3_startFirstThatCan 51 = .ok (.iconst 0, 1) := by decide +kernel
theorem dX3_startFirstThatCan_52 : decode cX3_startFirstThatCan 52 = .ok (.ireturn, 1) := by decide +kernel
theorem dX3_start_0 : decode cX3_start 0 = .ok (.aload_n 1, 1) := by decide +kernel
theorem dX3_start_1 : decode cX3_start 1 = .ok (.iconst 1, 1) := by decide +kernel
theorem dX3_start_2 : decode cX3_start 2 = .ok (.putfield 185, 3) := by decide +kernel
theorem dX3_start_5 : decode cX3_start 5 = .ok (.aload_n 1, 1) := by decide +kernel
theorem dX3_start_6 : decode cX3_start 6 = .ok (.aload_n 0, 1) := by decide +kernel
theorem dX3_start_7 : decode cX3_start 7 = .ok (.getfield 42, 3) := by decide +kernel
theorem dX3_start_10 : decode cX3_start 10 = .ok (.putfield 204, 3) := by decide +kernel
theorem dX3_start_13 : decode cX3_start 13 = .ok (.aload_n 1, 1) := by decide +kernel
theorem dX3_start_14 : decode cX3_start 14 = .ok (.getfield 279, 3) := by decide +kernel
theorem dX3_start_17 : decode cX3_start 17 = .ok (.iconst 1, 1) := by decide +kernel
theorem dX3_start_18 : decode cX3_start 18 = .ok (.putfield 123, 3) := by decide +kernel
theorem dX3_start_21 : decode cX3_start 21 = .ok (.aload_n 1, 1) := by decide +kernel
theorem dX3_start_22 : decode cX3_start 22 = .ok (.getfield 284, 3) := by decide +kernel
theorem dX3_start_25 : decode cX3_start 25 = .ok (.ifnull 11, 3) := by decide +kernel
theorem dX3_start_28 : decode cX3_start 28 = .ok (.aload_n 1, 1) := by decide +kernel
theorem dX3_start_29 : decode cX3_start 29 = .ok (.getfield 284, 3) := by decide +kernel
theorem dX3_start_32 : decode cX3_start 32 = .ok (.iconst 1, 1) := by decide +kernel
theorem dX3_start_33 : decode cX3_start 33 = .ok (.putfield 123, 3) := by decide +kernel
theorem dX3_start_36 : decode cX3_start 36 = .ok (.aload_n 1, 1) := by decide +kernel
theorem dX3_start_37 : decode cX3_start 37 = .ok (.getfield 287, 3) := by decide +kernel
theorem dX3_start_40 : decode cX3_start 40 = .ok (.iconst 1, 1) := by decide +kernel
theorem dX3_start_41 : decode cX3_start 41 = .ok (.putfield 110, 3) := by decide +kernel
theorem dX3_start_44 : decode cX3_start 44 = .ok (.aload_n 1, 1) := by decide +kernel
theorem dX3_start_45 : decode cX3_start 45 = .ok (.getfield 287, 3) := by decide +kernel
theorem dX3_start_48 : decode cX3_start 48 = .ok (.aload_n 1, 1) := by decide +kernel
theorem dX3_start_49 : decode cX3_start 49 = .ok (.putfield 195, 3) := by decide +kernel
theorem dX3_start_52 : decode cX3_start 52 = .ok (.aload_n 1, 1) := by decide +kernel
theorem dX3_start_53 : decode cX3_start 53 = .ok (.getfield 161, 3) := by decide +kernel
theorem dX3_start_56 : decode cX3_start 56 = .ok (.ifCond .ne 20, 3) := by decide +kernel
theorem dX3_start_59 : decode cX3_start 59 = .ok (.aload_n 0, 1) := by decide +kernel
theorem dX3_start_60 : decode cX3_start 60 = .ok (.invokevirtual 373, 3) := by decide +kernel
theorem dX3_start_63 : decode cX3_start 63 = .ok (.aload_n 0, 1) := by decide +kernel
theorem dX3_start_64 : decode cX3_start 64 = .ok (.aload_n 0, 1) := by decide +kernel
theorem dX3_start_65 : decode cX3_start 65 = .ok (.getfield 42, 3) := by decide +kernel
theorem dX3_start_68 : decode cX3_start 68 = .ok (.iconst 2, 1) := by decide +kernel
theorem dX3_start_69 : decode cX3_start 69 = .ok (.iadd, 1) := by decide +kernel
theorem dX3_start_70 : decode cX3_start 70 = .ok (.putfield 51, 3) := by decide +kernel
theorem dX3_start_73 : decode cX3_start 73 = .ok (.goto 21, 3) := by decide +kernel
theorem dX3_start_76 : decode cX3_start 76 = .ok (.aload_n 0, 1) := by decide +kernel
theorem dX3_start_77 : decode cX3_start 77 = .ok (.aload_n 1, 1) := by decide +kernel
theorem dX3_start_78 : decode cX3_start 78 = .ok (.getfield 161, 3) := by decide +kernel
theorem dX3_start_81 : decode cX3_start 81 = .ok (.invokevirtual 376, 3) := by decide +kernel
theorem dX3_start_84 : decode cX3_start 84 = .ok (.aload_n 0, 1) := by decide +kernel
theorem dX3_start_85 : decode cX3_start 85 = .ok (.aload_n 0, 1) := by decide +kernel
theorem dX3_start_86 : decode cX3_start 86 = .ok (.getfield 42, 3) := by decide +kernel
theorem dX3_start_89 : decode cX3_start 89 = .ok (.iconst 3, 1) := by decide +kernel
theorem dX3_start_90 : decode cX3_start 90 = .ok (.iadd, 1) := by decide +kernel
theorem dX3_start_91 : decode cX3_start 91 = .ok (.putfield 51, 3) := by decide +kernel
theorem dX3_start_94 : decode cX3_start 94 = .ok (.return_, 1) := by decide +kernel
theorem dX3_takeCable_0 : decode cX3_takeCable 0 = .ok (.aload_n 0, 1) := by decide +kernel
theorem dX3_takeCable_1 : decode cX3_takeCable 1 = .ok (.dup, 1) := by decide +kernel
theorem dX3_takeCable_2 : decode cX3_takeCable 2 = .ok (.getfield 36, 3) := by decide +kernel
theorem dX3_takeCable_5 : decode cX3_takeCable 5 = .ok (.iconst 1, 1) := by decide +kernel
theorem dX3_takeCable_6 : decode cX3_takeCable 6 = .ok (.iadd, 1) := by decide +kernel
theorem dX3_takeCable_7 : decode cX3_takeCable 7 = .ok (.putfield 36, 3) := by decide +kernel
theorem dX3_takeCable_10 : decode cX3_takeCable 10 = .ok (.aload_n 0, 1) := by decide +kernel
theorem dX3_takeCable_11 : decode cX3_takeCable 11 = .ok (.getfield 36, 3) := by decide +kernel
theorem dX3_takeCable_14 : decode cX3_takeCable 14 = .ok (.iconst 2, 1) := by decide +kernel
theorem dX3_takeCable_15 : decode cX3_takeCable 15 = .ok (.if_icmp .lt 14, 3) := by decide +kernel
theorem dX3_takeCable_18 : decode cX3_takeCable 18 = .ok (.aload_n 0, 1) := by decide +kernel
theorem dX3_takeCable_19 : decode cX3_takeCable 19 = .ok (.aload_n 0, 1) := by decide +kernel
theorem dX3_takeCable_20 : decode cX3_takeCable 20 = .ok (.getfield 42, 3) := by decide +kernel
theorem dX3_takeCable_23 : decode cX3_takeCable 23 = .ok (.bipush 10, 2) := by decide +kernel
theorem dX3_takeCable_25 : decode cX3_takeCable 25 = .ok (.iadd, 1) := by decide +kernel
theorem dX3_takeCable_26 : decode cX3_takeCable 26 = .ok (.putfield 39, 3) := by decide +kernel
theorem dX3_takeCable_29 : decode cX3_takeCable 29 = .ok (.return_, 1) := by decide +kernel
theorem dX3_takeTug_0 : decode cX3_takeTug 0 = .ok (.iconst 0, 1) := by decide +kernel
theorem dX3_takeTug_1 : decode cX3_takeTug 1 = .ok (.istore_n 2, 1) := by decide +kernel
theorem dX3_takeTug_2 : decode cX3_takeTug 2 = .ok (.iload_n 2, 1) := by decide +kernel
theorem dX3_takeTug_3 : decode cX3_takeTug 3 = .ok (.aload_n 0, 1) := by decide +kernel
theorem dX3_takeTug_4 : decode cX3_takeTug 4 = .ok (.getfield 28, 3) := by decide +kernel
theorem dX3_takeTug_7 : decode cX3_takeTug 7 = .ok (.arraylength, 1) := by decide +kernel
theorem dX3_takeTug_8 : decode cX3_takeTug 8 = .ok (.if_icmp .ge 36, 3) := by decide +kernel
theorem dX3_takeTug_11 : decode cX3_takeTug 11 = .ok (.aload_n 0, 1) := by decide +kernel
theorem dX3_takeTug_12 : decode cX3_takeTug 12 = .ok (.getfield 28, 3) := by decide +kernel
theorem dX3_takeTug_15 : decode cX3_takeTug 15 = .ok (.iload_n 2, 1) := by decide +kernel
theorem dX3_takeTug_16 : decode cX3_takeTug 16 = .ok (.iaload, 1) := by decide +kernel
theorem dX3_takeTug_17 : decode cX3_takeTug 17 = .ok (.ifCond .ne 21, 3) := by decide +kernel
theorem dX3_takeTug_20 : decode cX3_takeTug 20 = .ok (.aload_n 0, 1) := by decide +kernel
theorem dX3_takeTug_21 : decode cX3_takeTug 21 = .ok (.getfield 28, 3) := by decide +kernel
theorem dX3_takeTug_24 : decode cX3_takeTug 24 = .ok (.iload_n 2, 1) := by decide +kernel
theorem dX3_takeTug_25 : decode cX3_takeTug 25 = .ok (.aload_n 0, 1) := by decide +kernel
theorem dX3_takeTug_26 : decode cX3_takeTug 26 = .ok (.getfield 42, 3) := by decide +kernel
theorem dX3_takeTug_29 : decode cX3_takeTug 29 = .ok (.iconst 4, 1) := by decide +kernel
theorem dX3_takeTug_30 : decode cX3_takeTug 30 = .ok (.iadd, 1) := by decide +kernel
theorem dX3_takeTug_31 : decode cX3_takeTug 31 = .ok (.iload_n 1, 1) := by decide +kernel
theorem dX3_takeTug_32 : decode cX3_takeTug 32 = .ok (.bipush 100, 2) := by decide +kernel
theorem dX3_takeTug_34 : decode cX3_takeTug 34 = .ok (.idiv, 1) := by decide +kernel
theorem dX3_takeTug_35 : decode cX3_takeTug 35 = .ok (.iadd, 1) := by decide +kernel
theorem dX3_takeTug_36 : decode cX3_takeTug 36 = .ok (.iastore, 1) := by decide +kernel
theorem dX3_takeTug_37 : decode cX3_takeTug 37 = .ok (.return_, 1) := by decide +kernel
theorem dX3_takeTug_38 : decode cX3_takeTug 38 = .ok (.iinc 2 1, 3) := by decide +kernel
theorem dX3_takeTug_41 : decode cX3_takeTug 41 = .ok (.goto (-39), 3) := by decide +kernel
theorem dX3_takeTug_44 : decode cX3_takeTug 44 = .ok (.return_, 1) := by decide +kernel
