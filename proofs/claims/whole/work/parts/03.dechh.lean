theorem d_hh_init_0 : decode b_hh_init 0 = .ok (.aload_n 0, 1) := by decide +kernel
theorem d_hh_init_1 : decode b_hh_init 1 = .ok (.invokespecial 3, 3) := by decide +kernel
theorem d_hh_init_4 : decode b_hh_init 4 = .ok (.aload_n 0, 1) := by decide +kernel
theorem d_hh_init_5 : decode b_hh_init 5 = .ok (.iconst 3, 1) := by decide +kernel
theorem d_hh_init_6 : decode b_hh_init 6 = .ok (.anewarray 9, 3) := by decide +kernel
theorem d_hh_init_9 : decode b_hh_init 9 = .ok (.putfield 11, 3) := by decide +kernel
theorem d_hh_init_12 : decode b_hh_init 12 = .ok (.iconst 0, 1) := by decide +kernel
theorem d_hh_init_13 : decode b_hh_init 13 = .ok (.istore_n 1, 1) := by decide +kernel
theorem d_hh_init_14 : decode b_hh_init 14 = .ok (.iload_n 1, 1) := by decide +kernel
theorem d_hh_init_15 : decode b_hh_init 15 = .ok (.iconst 3, 1) := by decide +kernel
theorem d_hh_init_16 : decode b_hh_init 16 = .ok (.if_icmp .ge 32, 3) := by decide +kernel
theorem d_hh_init_19 : decode b_hh_init 19 = .ok (.aload_n 0, 1) := by decide +kernel
theorem d_hh_init_20 : decode b_hh_init 20 = .ok (.getfield 11, 3) := by decide +kernel
theorem d_hh_init_23 : decode b_hh_init 23 = .ok (.iload_n 1, 1) := by decide +kernel
theorem d_hh_init_24 : decode b_hh_init 24 = .ok (.new 9, 3) := by decide +kernel
theorem d_hh_init_27 : decode b_hh_init 27 = .ok (.dup, 1) := by decide +kernel
theorem d_hh_init_28 : decode b_hh_init 28 = .ok (.iload_n 1, 1) := by decide +kernel
theorem d_hh_init_29 : decode b_hh_init 29 = .ok (.iconst 2, 1) := by decide +kernel
theorem d_hh_init_30 : decode b_hh_init 30 = .ok (.if_icmp .ne 7, 3) := by decide +kernel
theorem d_hh_init_33 : decode b_hh_init 33 = .ok (.iconst 1, 1) := by decide +kernel
theorem d_hh_init_34 : decode b_hh_init 34 = .ok (.goto 4, 3) := by decide +kernel
theorem d_hh_init_37 : decode b_hh_init 37 = .ok (.iconst 0, 1) := by decide +kernel
theorem d_hh_init_38 : decode b_hh_init 38 = .ok (.invokespecial 15, 3) := by decide +kernel
theorem d_hh_init_41 : decode b_hh_init 41 = .ok (.aastore, 1) := by decide +kernel
theorem d_hh_init_42 : decode b_hh_init 42 = .ok (.iinc 1 1, 3) := by decide +kernel
theorem d_hh_init_45 : decode b_hh_init 45 = .ok (.goto (-31), 3) := by decide +kernel
theorem d_hh_init_48 : decode b_hh_init 48 = .ok (.return_, 1) := by decide +kernel
theorem d_hh_put_0 : decode b_hh_put 0 = .ok (.aload_n 0, 1) := by decide +kernel
theorem d_hh_put_1 : decode b_hh_put 1 = .ok (.iload_n 1, 1) := by decide +kernel
theorem d_hh_put_2 : decode b_hh_put 2 = .ok (.invokevirtual 18, 3) := by decide +kernel
theorem d_hh_put_5 : decode b_hh_put 5 = .ok (.astore 4, 2) := by decide +kernel
theorem d_hh_put_7 : decode b_hh_put 7 = .ok (.aload 4, 2) := by decide +kernel
theorem d_hh_put_9 : decode b_hh_put 9 = .ok (.ifnonnull 9, 3) := by decide +kernel
theorem d_hh_put_12 : decode b_hh_put 12 = .ok (.ldc2_w 22, 3) := by decide +kernel
theorem d_hh_put_15 : decode b_hh_put 15 = .ok (.goto 10, 3) := by decide +kernel
theorem d_hh_put_18 : decode b_hh_put 18 = .ok (.aload 4, 2) := by decide +kernel
theorem d_hh_put_20 : decode b_hh_put 20 = .ok (.iload_n 2, 1) := by decide +kernel
theorem d_hh_put_21 : decode b_hh_put 21 = .ok (.iload_n 3, 1) := by decide +kernel
theorem d_hh_put_22 : decode b_hh_put 22 = .ok (.invokevirtual 24, 3) := by decide +kernel
theorem d_hh_put_25 : decode b_hh_put 25 = .ok (.lreturn, 1) := by decide +kernel
theorem d_hh_tableOf_0 : decode b_hh_tableOf 0 = .ok (.iload_n 1, 1) := by decide +kernel
theorem d_hh_tableOf_1 : decode b_hh_tableOf 1 = .ok (.ifCond .lt 17, 3) := by decide +kernel
theorem d_hh_tableOf_4 : decode b_hh_tableOf 4 = .ok (.iload_n 1, 1) := by decide +kernel
theorem d_hh_tableOf_5 : decode b_hh_tableOf 5 = .ok (.iconst 3, 1) := by decide +kernel
theorem d_hh_tableOf_6 : decode b_hh_tableOf 6 = .ok (.if_icmp .ge 12, 3) := by decide +kernel
theorem d_hh_tableOf_9 : decode b_hh_tableOf 9 = .ok (.aload_n 0, 1) := by decide +kernel
theorem d_hh_tableOf_10 : decode b_hh_tableOf 10 = .ok (.getfield 11, 3) := by decide +kernel
theorem d_hh_tableOf_13 : decode b_hh_tableOf 13 = .ok (.iload_n 1, 1) := by decide +kernel
theorem d_hh_tableOf_14 : decode b_hh_tableOf 14 = .ok (.aaload, 1) := by decide +kernel
theorem d_hh_tableOf_15 : decode b_hh_tableOf 15 = .ok (.goto 4, 3) := by decide +kernel
theorem d_hh_tableOf_18 : decode b_hh_tableOf 18 = .ok (.aconst_null, 1) := by decide +kernel
theorem d_hh_tableOf_19 : decode b_hh_tableOf 19 = .ok (.areturn, 1) := by decide +kernel
theorem d_ja_copyOf_0 : decode b_ja_copyOf 0 = .ok (.iload_n 1, 1) := by decide +kernel
theorem d_ja_copyOf_1 : decode b_ja_copyOf 1 = .ok (.aload_n 0, 1) := by decide +kernel
theorem d_ja_copyOf_2 : decode b_ja_copyOf 2 = .ok (.arraylength, 1) := by decide +kernel
theorem d_ja_copyOf_3 : decode b_ja_copyOf 3 = .ok (.if_icmp .ne 11, 3) := by decide +kernel
theorem d_ja_copyOf_6 : decode b_ja_copyOf 6 = .ok (.aload_n 0, 1) := by decide +kernel
theorem d_ja_copyOf_7 : decode b_ja_copyOf 7 = .ok (.invokevirtual 316, 3) := by decide +kernel
theorem d_ja_copyOf_10 : decode b_ja_copyOf 10 = .ok (.checkcast 317, 3) := by decide +kernel
theorem d_ja_copyOf_13 : decode b_ja_copyOf 13 = .ok (.areturn, 1) := by decide +kernel
theorem d_ja_copyOf_14 : decode b_ja_copyOf 14 = .ok (.iload_n 1, 1) := by decide +kernel
theorem d_ja_copyOf_15 : decode b_ja_copyOf 15 = .ok (.newarray .int, 2) := by decide +kernel
theorem d_ja_copyOf_17 : decode b_ja_copyOf 17 = .ok (.astore_n 2, 1) := by decide +kernel
theorem d_ja_copyOf_18 : decode b_ja_copyOf 18 = .ok (.aload_n 0, 1) := by decide +kernel
theorem d_ja_copyOf_19 : decode b_ja_copyOf 19 = .ok (.iconst 0, 1) := by decide +kernel
theorem d_ja_copyOf_20 : decode b_ja_copyOf 20 = .ok (.aload_n 2, 1) := by decide +kernel
theorem d_ja_copyOf_21 : decode b_ja_copyOf 21 = .ok (.iconst 0, 1) := by decide +kernel
theorem d_ja_copyOf_22 : decode b_ja_copyOf 22 = .ok (.aload_n 0, 1) := by decide +kernel
theorem d_ja_copyOf_23 : decode b_ja_copyOf 23 = .ok (.arraylength, 1) := by decide +kernel
theorem d_ja_copyOf_24 : decode b_ja_copyOf 24 = .ok (.iload_n 1, 1) := by decide +kernel
theorem d_ja_copyOf_25 : decode b_ja_copyOf 25 = .ok (.invokestatic 304, 3) := by decide +kernel
theorem d_ja_copyOf_28 : decode b_ja_copyOf 28 = .ok (.invokestatic 150, 3) := by decide +kernel
theorem d_ja_copyOf_31 : decode b_ja_copyOf 31 = .ok (.aload_n 2, 1) := by decide +kernel
theorem d_ja_copyOf_32 : decode b_ja_copyOf 32 = .ok (.areturn, 1) := by decide +kernel
theorem d_jm_min_0 : decode b_jm_min 0 = .ok (.iload_n 0, 1) := by decide +kernel
theorem d_jm_min_1 : decode b_jm_min 1 = .ok (.iload_n 1, 1) := by decide +kernel
theorem d_jm_min_2 : decode b_jm_min 2 = .ok (.if_icmp .gt 7, 3) := by decide +kernel
theorem d_jm_min_5 : decode b_jm_min 5 = .ok (.iload_n 0, 1) := by decide +kernel
theorem d_jm_min_6 : decode b_jm_min 6 = .ok (.goto 4, 3) := by decide +kernel
theorem d_jm_min_9 : decode b_jm_min 9 = .ok (.iload_n 1, 1) := by decide +kernel
theorem d_jm_min_10 : decode b_jm_min 10 = .ok (.ireturn, 1) := by decide +kernel
theorem d_hh_add_0 : decode b_hh_add 0 = .ok (.aload_n 0, 1) := by decide +kernel
theorem d_hh_add_1 : decode b_hh_add 1 = .ok (.iload_n 1, 1) := by decide +kernel
theorem d_hh_add_2 : decode b_hh_add 2 = .ok (.invokevirtual 18, 3) := by decide +kernel
theorem d_hh_add_5 : decode b_hh_add 5 = .ok (.astore 4, 2) := by decide +kernel
theorem d_hh_add_7 : decode b_hh_add 7 = .ok (.aload 4, 2) := by decide +kernel
theorem d_hh_add_9 : decode b_hh_add 9 = .ok (.ifnonnull 9, 3) := by decide +kernel
theorem d_hh_add_12 : decode b_hh_add 12 = .ok (.ldc2_w 22, 3) := by decide +kernel
theorem d_hh_add_15 : decode b_hh_add 15 = .ok (.goto 10, 3) := by decide +kernel
theorem d_hh_add_18 : decode b_hh_add 18 = .ok (.aload 4, 2) := by decide +kernel
theorem d_hh_add_20 : decode b_hh_add 20 = .ok (.iload_n 2, 1) := by decide +kernel
theorem d_hh_add_21 : decode b_hh_add 21 = .ok (.iload_n 3, 1) := by decide +kernel
theorem d_hh_add_22 : decode b_hh_add 22 = .ok (.invokevirtual 28, 3) := by decide +kernel
theorem d_hh_add_25 : decode b_hh_add 25 = .ok (.lreturn, 1) := by decide +kernel
theorem d_hh_get_0 : decode b_hh_get 0 = .ok (.aload_n 0, 1) := by decide +kernel
theorem d_hh_get_1 : decode b_hh_get 1 = .ok (.iload_n 1, 1) := by decide +kernel
theorem d_hh_get_2 : decode b_hh_get 2 = .ok (.invokevirtual 18, 3) := by decide +kernel
theorem d_hh_get_5 : decode b_hh_get 5 = .ok (.astore_n 3, 1) := by decide +kernel
theorem d_hh_get_6 : decode b_hh_get 6 = .ok (.aload_n 3, 1) := by decide +kernel
theorem d_hh_get_7 : decode b_hh_get 7 = .ok (.ifnonnull 9, 3) := by decide +kernel
theorem d_hh_get_10 : decode b_hh_get 10 = .ok (.ldc2_w 22, 3) := by decide +kernel
theorem d_hh_get_13 : decode b_hh_get 13 = .ok (.goto 8, 3) := by decide +kernel
theorem d_hh_get_16 : decode b_hh_get 16 = .ok (.aload_n 3, 1) := by decide +kernel
theorem d_hh_get_17 : decode b_hh_get 17 = .ok (.iload_n 2, 1) := by decide +kernel
theorem d_hh_get_18 : decode b_hh_get 18 = .ok (.invokevirtual 31, 3) := by decide +kernel
theorem d_hh_get_21 : decode b_hh_get 21 = .ok (.lreturn, 1) := by decide +kernel
theorem d_hh_give_0 : decode b_hh_give 0 = .ok (.aload_n 0, 1) := by decide +kernel
theorem d_hh_give_1 : decode b_hh_give 1 = .ok (.iload_n 1, 1) := by decide +kernel
theorem d_hh_give_2 : decode b_hh_give 2 = .ok (.invokevirtual 18, 3) := by decide +kernel
theorem d_hh_give_5 : decode b_hh_give 5 = .ok (.astore 4, 2) := by decide +kernel
theorem d_hh_give_7 : decode b_hh_give 7 = .ok (.aload 4, 2) := by decide +kernel
theorem d_hh_give_9 : decode b_hh_give 9 = .ok (.ifnonnull 7, 3) := by decide +kernel
theorem d_hh_give_12 : decode b_hh_give 12 = .ok (.ldc2_w 22, 3) := by decide +kernel
theorem d_hh_give_15 : decode b_hh_give 15 = .ok (.lreturn, 1) := by decide +kernel
theorem d_hh_give_16 : decode b_hh_give 16 = .ok (.aload 4, 2) := by decide +kernel
theorem d_hh_give_18 : decode b_hh_give 18 = .ok (.iload_n 2, 1) := by decide +kernel
theorem d_hh_give_19 : decode b_hh_give 19 = .ok (.invokevirtual 31, 3) := by decide +kernel
theorem d_hh_give_22 : decode b_hh_give 22 = .ok (.lstore 5, 2) := by decide +kernel
theorem d_hh_give_24 : decode b_hh_give 24 = .ok (.lload 5, 2) := by decide +kernel
theorem d_hh_give_26 : decode b_hh_give 26 = .ok (.ldc2_w 35, 3) := by decide +kernel
theorem d_hh_give_29 : decode b_hh_give 29 = .ok (.lcmp, 1) := by decide +kernel
theorem d_hh_give_30 : decode b_hh_give 30 = .ok (.ifCond .ne 8, 3) := by decide +kernel
theorem d_hh_give_33 : decode b_hh_give 33 = .ok (.iload_n 3, 1) := by decide +kernel
theorem d_hh_give_34 : decode b_hh_give 34 = .ok (.i2l, 1) := by decide +kernel
theorem d_hh_give_35 : decode b_hh_give 35 = .ok (.goto 5, 3) := by decide +kernel
theorem d_hh_give_38 : decode b_hh_give 38 = .ok (.lload 5, 2) := by decide +kernel
theorem d_hh_give_40 : decode b_hh_give 40 = .ok (.lreturn, 1) := by decide +kernel
theorem d_hh_remove_0 : decode b_hh_remove 0 = .ok (.aload_n 0, 1) := by decide +kernel
theorem d_hh_remove_1 : decode b_hh_remove 1 = .ok (.iload_n 1, 1) := by decide +kernel
theorem d_hh_remove_2 : decode b_hh_remove 2 = .ok (.invokevirtual 18, 3) := by decide +kernel
theorem d_hh_remove_5 : decode b_hh_remove 5 = .ok (.astore_n 3, 1) := by decide +kernel
theorem d_hh_remove_6 : decode b_hh_remove 6 = .ok (.aload_n 3, 1) := by decide +kernel
theorem d_hh_remove_7 : decode b_hh_remove 7 = .ok (.ifnonnull 9, 3) := by decide +kernel
theorem d_hh_remove_10 : decode b_hh_remove 10 = .ok (.ldc2_w 22, 3) := by decide +kernel
theorem d_hh_remove_13 : decode b_hh_remove 13 = .ok (.goto 8, 3) := by decide +kernel
theorem d_hh_remove_16 : decode b_hh_remove 16 = .ok (.aload_n 3, 1) := by decide +kernel
theorem d_hh_remove_17 : decode b_hh_remove 17 = .ok (.iload_n 2, 1) := by decide +kernel
theorem d_hh_remove_18 : decode b_hh_remove 18 = .ok (.invokevirtual 37, 3) := by decide +kernel
theorem d_hh_remove_21 : decode b_hh_remove 21 = .ok (.lreturn, 1) := by decide +kernel
theorem d_hh_take_0 : decode b_hh_take 0 = .ok (.aload_n 0, 1) := by decide +kernel
theorem d_hh_take_1 : decode b_hh_take 1 = .ok (.iload_n 1, 1) := by decide +kernel
theorem d_hh_take_2 : decode b_hh_take 2 = .ok (.invokevirtual 18, 3) := by decide +kernel
theorem d_hh_take_5 : decode b_hh_take 5 = .ok (.astore 4, 2) := by decide +kernel
theorem d_hh_take_7 : decode b_hh_take 7 = .ok (.aload 4, 2) := by decide +kernel
theorem d_hh_take_9 : decode b_hh_take 9 = .ok (.ifnull 17, 3) := by decide +kernel
theorem d_hh_take_12 : decode b_hh_take 12 = .ok (.aload 4, 2) := by decide +kernel
theorem d_hh_take_14 : decode b_hh_take 14 = .ok (.iload_n 2, 1) := by decide +kernel
theorem d_hh_take_15 : decode b_hh_take 15 = .ok (.iload_n 3, 1) := by decide +kernel
theorem d_hh_take_16 : decode b_hh_take 16 = .ok (.invokevirtual 40, 3) := by decide +kernel
theorem d_hh_take_19 : decode b_hh_take 19 = .ok (.ifCond .eq 7, 3) := by decide +kernel
theorem d_hh_take_22 : decode b_hh_take 22 = .ok (.iconst 1, 1) := by decide +kernel
theorem d_hh_take_23 : decode b_hh_take 23 = .ok (.goto 4, 3) := by decide +kernel
theorem d_hh_take_26 : decode b_hh_take 26 = .ok (.iconst 0, 1) := by decide +kernel
theorem d_hh_take_27 : decode b_hh_take 27 = .ok (.ireturn, 1) := by decide +kernel
theorem d_hh_has_0 : decode b_hh_has 0 = .ok (.aload_n 0, 1) := by decide +kernel
theorem d_hh_has_1 : decode b_hh_has 1 = .ok (.iload_n 1, 1) := by decide +kernel
theorem d_hh_has_2 : decode b_hh_has 2 = .ok (.invokevirtual 18, 3) := by decide +kernel
theorem d_hh_has_5 : decode b_hh_has 5 = .ok (.astore 4, 2) := by decide +kernel
theorem d_hh_has_7 : decode b_hh_has 7 = .ok (.aload 4, 2) := by decide +kernel
theorem d_hh_has_9 : decode b_hh_has 9 = .ok (.ifnonnull 5, 3) := by decide +kernel
theorem d_hh_has_12 : decode b_hh_has 12 = .ok (.iconst 0, 1) := by decide +kernel
theorem d_hh_has_13 : decode b_hh_has 13 = .ok (.ireturn, 1) := by decide +kernel
theorem d_hh_has_14 : decode b_hh_has 14 = .ok (.iload_n 2, 1) := by decide +kernel
theorem d_hh_has_15 : decode b_hh_has 15 = .ok (.ifCond .ne 10, 3) := by decide +kernel
theorem d_hh_has_18 : decode b_hh_has 18 = .ok (.aload 4, 2) := by decide +kernel
theorem d_hh_has_20 : decode b_hh_has 20 = .ok (.iload_n 3, 1) := by decide +kernel
theorem d_hh_has_21 : decode b_hh_has 21 = .ok (.invokevirtual 44, 3) := by decide +kernel
theorem d_hh_has_24 : decode b_hh_has 24 = .ok (.ireturn, 1) := by decide +kernel
theorem d_hh_has_25 : decode b_hh_has 25 = .ok (.iload_n 2, 1) := by decide +kernel
theorem d_hh_has_26 : decode b_hh_has 26 = .ok (.iconst 1, 1) := by decide +kernel
theorem d_hh_has_27 : decode b_hh_has 27 = .ok (.if_icmp .ne 16, 3) := by decide +kernel
theorem d_hh_has_30 : decode b_hh_has 30 = .ok (.aload 4, 2) := by decide +kernel
theorem d_hh_has_32 : decode b_hh_has 32 = .ok (.iload_n 3, 1) := by decide +kernel
theorem d_hh_has_33 : decode b_hh_has 33 = .ok (.invokevirtual 48, 3) := by decide +kernel
theorem d_hh_has_36 : decode b_hh_has 36 = .ok (.ifCond .eq 7, 3) := by decide +kernel
theorem d_hh_has_39 : decode b_hh_has 39 = .ok (.iconst 1, 1) := by decide +kernel
theorem d_hh_has_40 : decode b_hh_has 40 = .ok (.goto 4, 3) := by decide +kernel
theorem d_hh_has_43 : decode b_hh_has 43 = .ok (.iconst 0, 1) := by decide +kernel
theorem d_hh_has_44 : decode b_hh_has 44 = .ok (.ireturn, 1) := by decide +kernel
theorem d_hh_size_0 : decode b_hh_size 0 = .ok (.aload_n 0, 1) := by decide +kernel
theorem d_hh_size_1 : decode b_hh_size 1 = .ok (.iload_n 1, 1) := by decide +kernel
theorem d_hh_size_2 : decode b_hh_size 2 = .ok (.invokevirtual 18, 3) := by decide +kernel
theorem d_hh_size_5 : decode b_hh_size 5 = .ok (.astore_n 2, 1) := by decide +kernel
theorem d_hh_size_6 : decode b_hh_size 6 = .ok (.aload_n 2, 1) := by decide +kernel
theorem d_hh_size_7 : decode b_hh_size 7 = .ok (.ifnonnull 7, 3) := by decide +kernel
theorem d_hh_size_10 : decode b_hh_size 10 = .ok (.iconst (-1), 1) := by decide +kernel
theorem d_hh_size_11 : decode b_hh_size 11 = .ok (.goto 7, 3) := by decide +kernel
theorem d_hh_size_14 : decode b_hh_size 14 = .ok (.aload_n 2, 1) := by decide +kernel
theorem d_hh_size_15 : decode b_hh_size 15 = .ok (.getfield 51, 3) := by decide +kernel
theorem d_hh_size_18 : decode b_hh_size 18 = .ok (.ireturn, 1) := by decide +kernel
theorem d_hh_clear_0 : decode b_hh_clear 0 = .ok (.aload_n 0, 1) := by decide +kernel
theorem d_hh_clear_1 : decode b_hh_clear 1 = .ok (.iload_n 1, 1) := by decide +kernel
theorem d_hh_clear_2 : decode b_hh_clear 2 = .ok (.invokevirtual 18, 3) := by decide +kernel
theorem d_hh_clear_5 : decode b_hh_clear 5 = .ok (.astore_n 2, 1) := by decide +kernel
theorem d_hh_clear_6 : decode b_hh_clear 6 = .ok (.aload_n 2, 1) := by decide +kernel
theorem d_hh_clear_7 : decode b_hh_clear 7 = .ok (.ifnonnull 7, 3) := by decide +kernel
theorem d_hh_clear_10 : decode b_hh_clear 10 = .ok (.iconst (-1), 1) := by decide +kernel
theorem d_hh_clear_11 : decode b_hh_clear 11 = .ok (.goto 7, 3) := by decide +kernel
theorem d_hh_clear_14 : decode b_hh_clear 14 = .ok (.aload_n 2, 1) := by decide +kernel
theorem d_hh_clear_15 : decode b_hh_clear 15 = .ok (.invokevirtual 55, 3) := by decide +kernel
theorem d_hh_clear_18 : decode b_hh_clear 18 = .ok (.ireturn, 1) := by decide +kernel
theorem d_ja_fill_0 : decode b_ja_fill 0 = .ok (.iconst 0, 1) := by decide +kernel
theorem d_ja_fill_1 : decode b_ja_fill 1 = .ok (.istore_n 2, 1) := by decide +kernel
theorem d_ja_fill_2 : decode b_ja_fill 2 = .ok (.aload_n 0, 1) := by decide +kernel
theorem d_ja_fill_3 : decode b_ja_fill 3 = .ok (.arraylength, 1) := by decide +kernel
theorem d_ja_fill_4 : decode b_ja_fill 4 = .ok (.istore_n 3, 1) := by decide +kernel
theorem d_ja_fill_5 : decode b_ja_fill 5 = .ok (.iload_n 2, 1) := by decide +kernel
theorem d_ja_fill_6 : decode b_ja_fill 6 = .ok (.iload_n 3, 1) := by decide +kernel
theorem d_ja_fill_7 : decode b_ja_fill 7 = .ok (.if_icmp .ge 13, 3) := by decide +kernel
theorem d_ja_fill_10 : decode b_ja_fill 10 = .ok (.aload_n 0, 1) := by decide +kernel
theorem d_ja_fill_11 : decode b_ja_fill 11 = .ok (.iload_n 2, 1) := by decide +kernel
theorem d_ja_fill_12 : decode b_ja_fill 12 = .ok (.iload_n 1, 1) := by decide +kernel
theorem d_ja_fill_13 : decode b_ja_fill 13 = .ok (.iastore, 1) := by decide +kernel
theorem d_ja_fill_14 : decode b_ja_fill 14 = .ok (.iinc 2 1, 3) := by decide +kernel
theorem d_ja_fill_17 : decode b_ja_fill 17 = .ok (.goto (-12), 3) := by decide +kernel
theorem d_ja_fill_20 : decode b_ja_fill 20 = .ok (.return_, 1) := by decide +kernel
theorem d_hh_pour_0 : decode b_hh_pour 0 = .ok (.aload_n 0, 1) := by decide +kernel
theorem d_hh_pour_1 : decode b_hh_pour 1 = .ok (.iload_n 1, 1) := by decide +kernel
theorem d_hh_pour_2 : decode b_hh_pour 2 = .ok (.invokevirtual 18, 3) := by decide +kernel
theorem d_hh_pour_5 : decode b_hh_pour 5 = .ok (.astore_n 3, 1) := by decide +kernel
theorem d_hh_pour_6 : decode b_hh_pour 6 = .ok (.aload_n 0, 1) := by decide +kernel
theorem d_hh_pour_7 : decode b_hh_pour 7 = .ok (.iload_n 2, 1) := by decide +kernel
theorem d_hh_pour_8 : decode b_hh_pour 8 = .ok (.invokevirtual 18, 3) := by decide +kernel
theorem d_hh_pour_11 : decode b_hh_pour 11 = .ok (.astore 4, 2) := by decide +kernel
theorem d_hh_pour_13 : decode b_hh_pour 13 = .ok (.aload_n 3, 1) := by decide +kernel
theorem d_hh_pour_14 : decode b_hh_pour 14 = .ok (.ifnull 13, 3) := by decide +kernel
theorem d_hh_pour_17 : decode b_hh_pour 17 = .ok (.aload 4, 2) := by decide +kernel
theorem d_hh_pour_19 : decode b_hh_pour 19 = .ok (.ifnull 8, 3) := by decide +kernel
theorem d_hh_pour_22 : decode b_hh_pour 22 = .ok (.iload_n 1, 1) := by decide +kernel
theorem d_hh_pour_23 : decode b_hh_pour 23 = .ok (.iload_n 2, 1) := by decide +kernel
theorem d_hh_pour_24 : decode b_hh_pour 24 = .ok (.if_icmp .ne 5, 3) := by decide +kernel
theorem d_hh_pour_27 : decode b_hh_pour 27 = .ok (.iconst (-1), 1) := by decide +kernel
theorem d_hh_pour_28 : decode b_hh_pour 28 = .ok (.ireturn, 1) := by decide +kernel
theorem d_hh_pour_29 : decode b_hh_pour 29 = .ok (.aload_n 3, 1) := by decide +kernel
theorem d_hh_pour_30 : decode b_hh_pour 30 = .ok (.getfield 51, 3) := by decide +kernel
theorem d_hh_pour_33 : decode b_hh_pour 33 = .ok (.aload 4, 2) := by decide +kernel
theorem d_hh_pour_35 : decode b_hh_pour 35 = .ok (.getfield 51, 3) := by decide +kernel
theorem d_hh_pour_38 : decode b_hh_pour 38 = .ok (.iadd, 1) := by decide +kernel
theorem d_hh_pour_39 : decode b_hh_pour 39 = .ok (.sipush 1400, 3) := by decide +kernel
theorem d_hh_pour_42 : decode b_hh_pour 42 = .ok (.if_icmp .le 5, 3) := by decide +kernel
theorem d_hh_pour_45 : decode b_hh_pour 45 = .ok (.iconst (-1), 1) := by decide +kernel
theorem d_hh_pour_46 : decode b_hh_pour 46 = .ok (.ireturn, 1) := by decide +kernel
theorem d_hh_pour_47 : decode b_hh_pour 47 = .ok (.iload_n 1, 1) := by decide +kernel
theorem d_hh_pour_48 : decode b_hh_pour 48 = .ok (.ifCond .ne 19, 3) := by decide +kernel
theorem d_hh_pour_51 : decode b_hh_pour 51 = .ok (.iload_n 2, 1) := by decide +kernel
theorem d_hh_pour_52 : decode b_hh_pour 52 = .ok (.iconst 1, 1) := by decide +kernel
theorem d_hh_pour_53 : decode b_hh_pour 53 = .ok (.if_icmp .ne 12, 3) := by decide +kernel
theorem d_hh_pour_56 : decode b_hh_pour 56 = .ok (.aload 4, 2) := by decide +kernel
theorem d_hh_pour_58 : decode b_hh_pour 58 = .ok (.aload_n 3, 1) := by decide +kernel
theorem d_hh_pour_59 : decode b_hh_pour 59 = .ok (.invokevirtual 59, 3) := by decide +kernel
theorem d_hh_pour_62 : decode b_hh_pour 62 = .ok (.ifCond .ne 5, 3) := by decide +kernel
theorem d_hh_pour_65 : decode b_hh_pour 65 = .ok (.iconst (-1), 1) := by decide +kernel
theorem d_hh_pour_66 : decode b_hh_pour 66 = .ok (.ireturn, 1) := by decide +kernel
theorem d_hh_pour_67 : decode b_hh_pour 67 = .ok (.aload 4, 2) := by decide +kernel
theorem d_hh_pour_69 : decode b_hh_pour 69 = .ok (.aload_n 3, 1) := by decide +kernel
theorem d_hh_pour_70 : decode b_hh_pour 70 = .ok (.invokevirtual 63, 3) := by decide +kernel
theorem d_hh_pour_73 : decode b_hh_pour 73 = .ok (.aload 4, 2) := by decide +kernel
theorem d_hh_pour_75 : decode b_hh_pour 75 = .ok (.getfield 51, 3) := by decide +kernel
theorem d_hh_pour_78 : decode b_hh_pour 78 = .ok (.ireturn, 1) := by decide +kernel
theorem d_hh_entry_0 : decode b_hh_entry 0 = .ok (.aload_n 0, 1) := by decide +kernel
theorem d_hh_entry_1 : decode b_hh_entry 1 = .ok (.iload_n 1, 1) := by decide +kernel
theorem d_hh_entry_2 : decode b_hh_entry 2 = .ok (.invokevirtual 18, 3) := by decide +kernel
theorem d_hh_entry_5 : decode b_hh_entry 5 = .ok (.astore 4, 2) := by decide +kernel
theorem d_hh_entry_7 : decode b_hh_entry 7 = .ok (.aload 4, 2) := by decide +kernel
theorem d_hh_entry_9 : decode b_hh_entry 9 = .ok (.ifnull 16, 3) := by decide +kernel
theorem d_hh_entry_12 : decode b_hh_entry 12 = .ok (.iload_n 1, 1) := by decide +kernel
theorem d_hh_entry_13 : decode b_hh_entry 13 = .ok (.ifCond .eq 12, 3) := by decide +kernel
theorem d_hh_entry_16 : decode b_hh_entry 16 = .ok (.iload_n 3, 1) := by decide +kernel
theorem d_hh_entry_17 : decode b_hh_entry 17 = .ok (.ifCond .eq 12, 3) := by decide +kernel
theorem d_hh_entry_20 : decode b_hh_entry 20 = .ok (.iload_n 3, 1) := by decide +kernel
theorem d_hh_entry_21 : decode b_hh_entry 21 = .ok (.iconst 1, 1) := by decide +kernel
theorem d_hh_entry_22 : decode b_hh_entry 22 = .ok (.if_icmp .eq 7, 3) := by decide +kernel
theorem d_hh_entry_25 : decode b_hh_entry 25 = .ok (.ldc2_w 22, 3) := by decide +kernel
theorem d_hh_entry_28 : decode b_hh_entry 28 = .ok (.lreturn, 1) := by decide +kernel
theorem d_hh_entry_29 : decode b_hh_entry 29 = .ok (.aload 4, 2) := by decide +kernel
theorem d_hh_entry_31 : decode b_hh_entry 31 = .ok (.iload_n 2, 1) := by decide +kernel
theorem d_hh_entry_32 : decode b_hh_entry 32 = .ok (.invokevirtual 67, 3) := by decide +kernel
theorem d_hh_entry_35 : decode b_hh_entry 35 = .ok (.istore 5, 2) := by decide +kernel
theorem d_hh_entry_37 : decode b_hh_entry 37 = .ok (.iload 5, 2) := by decide +kernel
theorem d_hh_entry_39 : decode b_hh_entry 39 = .ok (.ifCond .ne 7, 3) := by decide +kernel
theorem d_hh_entry_42 : decode b_hh_entry 42 = .ok (.ldc2_w 35, 3) := by decide +kernel
theorem d_hh_entry_45 : decode b_hh_entry 45 = .ok (.lreturn, 1) := by decide +kernel
theorem d_hh_entry_46 : decode b_hh_entry 46 = .ok (.iload_n 3, 1) := by decide +kernel
theorem d_hh_entry_47 : decode b_hh_entry 47 = .ok (.ifCond .ne 15, 3) := by decide +kernel
theorem d_hh_entry_50 : decode b_hh_entry 50 = .ok (.aload 4, 2) := by decide +kernel
theorem d_hh_entry_52 : decode b_hh_entry 52 = .ok (.getfield 71, 3) := by decide +kernel
theorem d_hh_entry_55 : decode b_hh_entry 55 = .ok (.iload 5, 2) := by decide +kernel
theorem d_hh_entry_57 : decode b_hh_entry 57 = .ok (.iaload, 1) := by decide +kernel
theorem d_hh_entry_58 : decode b_hh_entry 58 = .ok (.i2l, 1) := by decide +kernel
theorem d_hh_entry_59 : decode b_hh_entry 59 = .ok (.goto 12, 3) := by decide +kernel
theorem d_hh_entry_62 : decode b_hh_entry 62 = .ok (.aload 4, 2) := by decide +kernel
theorem d_hh_entry_64 : decode b_hh_entry 64 = .ok (.getfield 75, 3) := by decide +kernel
theorem d_hh_entry_67 : decode b_hh_entry 67 = .ok (.iload 5, 2) := by decide +kernel
theorem d_hh_entry_69 : decode b_hh_entry 69 = .ok (.iaload, 1) := by decide +kernel
theorem d_hh_entry_70 : decode b_hh_entry 70 = .ok (.i2l, 1) := by decide +kernel
theorem d_hh_entry_71 : decode b_hh_entry 71 = .ok (.lreturn, 1) := by decide +kernel
theorem d_hh_sum_0 : decode b_hh_sum 0 = .ok (.aload_n 0, 1) := by decide +kernel
theorem d_hh_sum_1 : decode b_hh_sum 1 = .ok (.iload_n 1, 1) := by decide +kernel
theorem d_hh_sum_2 : decode b_hh_sum 2 = .ok (.invokevirtual 18, 3) := by decide +kernel
theorem d_hh_sum_5 : decode b_hh_sum 5 = .ok (.astore_n 2, 1) := by decide +kernel
theorem d_hh_sum_6 : decode b_hh_sum 6 = .ok (.aload_n 2, 1) := by decide +kernel
theorem d_hh_sum_7 : decode b_hh_sum 7 = .ok (.ifnonnull 9, 3) := by decide +kernel
theorem d_hh_sum_10 : decode b_hh_sum 10 = .ok (.ldc2_w 22, 3) := by decide +kernel
theorem d_hh_sum_13 : decode b_hh_sum 13 = .ok (.goto 7, 3) := by decide +kernel
theorem d_hh_sum_16 : decode b_hh_sum 16 = .ok (.aload_n 2, 1) := by decide +kernel
theorem d_hh_sum_17 : decode b_hh_sum 17 = .ok (.invokevirtual 78, 3) := by decide +kernel
theorem d_hh_sum_20 : decode b_hh_sum 20 = .ok (.lreturn, 1) := by decide +kernel
theorem d_hh_sweep_0 : decode b_hh_sweep 0 = .ok (.aload_n 0, 1) := by decide +kernel
theorem d_hh_sweep_1 : decode b_hh_sweep 1 = .ok (.iload_n 1, 1) := by decide +kernel
theorem d_hh_sweep_2 : decode b_hh_sweep 2 = .ok (.invokevirtual 18, 3) := by decide +kernel
theorem d_hh_sweep_5 : decode b_hh_sweep 5 = .ok (.astore 4, 2) := by decide +kernel
theorem d_hh_sweep_7 : decode b_hh_sweep 7 = .ok (.aload 4, 2) := by decide +kernel
theorem d_hh_sweep_9 : decode b_hh_sweep 9 = .ok (.ifnull 8, 3) := by decide +kernel
theorem d_hh_sweep_12 : decode b_hh_sweep 12 = .ok (.iload_n 2, 1) := by decide +kernel
theorem d_hh_sweep_13 : decode b_hh_sweep 13 = .ok (.iconst 1, 1) := by decide +kernel
theorem d_hh_sweep_14 : decode b_hh_sweep 14 = .ok (.if_icmp .ge 7, 3) := by decide +kernel
theorem d_hh_sweep_17 : decode b_hh_sweep 17 = .ok (.iconst (-1), 1) := by decide +kernel
theorem d_hh_sweep_18 : decode b_hh_sweep 18 = .ok (.goto 10, 3) := by decide +kernel
theorem d_hh_sweep_21 : decode b_hh_sweep 21 = .ok (.aload 4, 2) := by decide +kernel
theorem d_hh_sweep_23 : decode b_hh_sweep 23 = .ok (.iload_n 2, 1) := by decide +kernel
theorem d_hh_sweep_24 : decode b_hh_sweep 24 = .ok (.iload_n 3, 1) := by decide +kernel
theorem d_hh_sweep_25 : decode b_hh_sweep 25 = .ok (.invokevirtual 82, 3) := by decide +kernel
theorem d_hh_sweep_28 : decode b_hh_sweep 28 = .ok (.ireturn, 1) := by decide +kernel
theorem d_jm_floorMod_0 : decode b_jm_floorMod 0 = .ok (.iload_n 0, 1) := by decide +kernel
theorem d_jm_floorMod_1 : decode b_jm_floorMod 1 = .ok (.iload_n 1, 1) := by decide +kernel
theorem d_jm_floorMod_2 : decode b_jm_floorMod 2 = .ok (.irem, 1) := by decide +kernel
theorem d_jm_floorMod_3 : decode b_jm_floorMod 3 = .ok (.istore_n 2, 1) := by decide +kernel
theorem d_jm_floorMod_4 : decode b_jm_floorMod 4 = .ok (.iload_n 0, 1) := by decide +kernel
theorem d_jm_floorMod_5 : decode b_jm_floorMod 5 = .ok (.iload_n 1, 1) := by decide +kernel
theorem d_jm_floorMod_6 : decode b_jm_floorMod 6 = .ok (.ixor, 1) := by decide +kernel
theorem d_jm_floorMod_7 : decode b_jm_floorMod 7 = .ok (.ifCond .ge 11, 3) := by decide +kernel
theorem d_jm_floorMod_10 : decode b_jm_floorMod 10 = .ok (.iload_n 2, 1) := by decide +kernel
theorem d_jm_floorMod_11 : decode b_jm_floorMod 11 = .ok (.ifCond .eq 7, 3) := by decide +kernel
theorem d_jm_floorMod_14 : decode b_jm_floorMod 14 = .ok (.iload_n 2, 1) := by decide +kernel
theorem d_jm_floorMod_15 : decode b_jm_floorMod 15 = .ok (.iload_n 1, 1) := by decide +kernel
theorem d_jm_floorMod_16 : decode b_jm_floorMod 16 = .ok (.iadd, 1) := by decide +kernel
theorem d_jm_floorMod_17 : decode b_jm_floorMod 17 = .ok (.ireturn, 1) := by decide +kernel
theorem d_jm_floorMod_18 : decode b_jm_floorMod 18 = .ok (.iload_n 2, 1) := by decide +kernel
theorem d_jm_floorMod_19 : decode b_jm_floorMod 19 = .ok (.ireturn, 1) := by decide +kernel
theorem d_hh_raise_0 : decode b_hh_raise 0 = .ok (.aload_n 0, 1) := by decide +kernel
theorem d_hh_raise_1 : decode b_hh_raise 1 = .ok (.iload_n 1, 1) := by decide +kernel
theorem d_hh_raise_2 : decode b_hh_raise 2 = .ok (.invokevirtual 18, 3) := by decide +kernel
theorem d_hh_raise_5 : decode b_hh_raise 5 = .ok (.astore_n 3, 1) := by decide +kernel
theorem d_hh_raise_6 : decode b_hh_raise 6 = .ok (.aload_n 3, 1) := by decide +kernel
theorem d_hh_raise_7 : decode b_hh_raise 7 = .ok (.ifnonnull 7, 3) := by decide +kernel
theorem d_hh_raise_10 : decode b_hh_raise 10 = .ok (.iconst (-1), 1) := by decide +kernel
theorem d_hh_raise_11 : decode b_hh_raise 11 = .ok (.goto 8, 3) := by decide +kernel
theorem d_hh_raise_14 : decode b_hh_raise 14 = .ok (.aload_n 3, 1) := by decide +kernel
theorem d_hh_raise_15 : decode b_hh_raise 15 = .ok (.iload_n 2, 1) := by decide +kernel
theorem d_hh_raise_16 : decode b_hh_raise 16 = .ok (.invokevirtual 86, 3) := by decide +kernel
theorem d_hh_raise_19 : decode b_hh_raise 19 = .ok (.ireturn, 1) := by decide +kernel
theorem d_hh_same_0 : decode b_hh_same 0 = .ok (.aload_n 0, 1) := by decide +kernel
theorem d_hh_same_1 : decode b_hh_same 1 = .ok (.iload_n 1, 1) := by decide +kernel
theorem d_hh_same_2 : decode b_hh_same 2 = .ok (.invokevirtual 18, 3) := by decide +kernel
theorem d_hh_same_5 : decode b_hh_same 5 = .ok (.astore_n 3, 1) := by decide +kernel
theorem d_hh_same_6 : decode b_hh_same 6 = .ok (.aload_n 0, 1) := by decide +kernel
theorem d_hh_same_7 : decode b_hh_same 7 = .ok (.iload_n 2, 1) := by decide +kernel
theorem d_hh_same_8 : decode b_hh_same 8 = .ok (.invokevirtual 18, 3) := by decide +kernel
theorem d_hh_same_11 : decode b_hh_same 11 = .ok (.astore 4, 2) := by decide +kernel
theorem d_hh_same_13 : decode b_hh_same 13 = .ok (.aload_n 3, 1) := by decide +kernel
theorem d_hh_same_14 : decode b_hh_same 14 = .ok (.ifnull 21, 3) := by decide +kernel
theorem d_hh_same_17 : decode b_hh_same 17 = .ok (.aload 4, 2) := by decide +kernel
theorem d_hh_same_19 : decode b_hh_same 19 = .ok (.ifnull 16, 3) := by decide +kernel
theorem d_hh_same_22 : decode b_hh_same 22 = .ok (.aload_n 3, 1) := by decide +kernel
theorem d_hh_same_23 : decode b_hh_same 23 = .ok (.aload 4, 2) := by decide +kernel
theorem d_hh_same_25 : decode b_hh_same 25 = .ok (.invokevirtual 89, 3) := by decide +kernel
theorem d_hh_same_28 : decode b_hh_same 28 = .ok (.ifCond .eq 7, 3) := by decide +kernel
theorem d_hh_same_31 : decode b_hh_same 31 = .ok (.iconst 1, 1) := by decide +kernel
theorem d_hh_same_32 : decode b_hh_same 32 = .ok (.goto 4, 3) := by decide +kernel
theorem d_hh_same_35 : decode b_hh_same 35 = .ok (.iconst 0, 1) := by decide +kernel
theorem d_hh_same_36 : decode b_hh_same 36 = .ok (.ireturn, 1) := by decide +kernel
theorem d_hh_fill_0 : decode b_hh_fill 0 = .ok (.aload_n 0, 1) := by decide +kernel
theorem d_hh_fill_1 : decode b_hh_fill 1 = .ok (.iload_n 1, 1) := by decide +kernel
theorem d_hh_fill_2 : decode b_hh_fill 2 = .ok (.invokevirtual 18, 3) := by decide +kernel
theorem d_hh_fill_5 : decode b_hh_fill 5 = .ok (.astore 5, 2) := by decide +kernel
theorem d_hh_fill_7 : decode b_hh_fill 7 = .ok (.aload 5, 2) := by decide +kernel
theorem d_hh_fill_9 : decode b_hh_fill 9 = .ok (.ifnull 28, 3) := by decide +kernel
theorem d_hh_fill_12 : decode b_hh_fill 12 = .ok (.iload 4, 2) := by decide +kernel
theorem d_hh_fill_14 : decode b_hh_fill 14 = .ok (.iconst 1, 1) := by decide +kernel
theorem d_hh_fill_15 : decode b_hh_fill 15 = .ok (.if_icmp .lt 22, 3) := by decide +kernel
theorem d_hh_fill_18 : decode b_hh_fill 18 = .ok (.iload 4, 2) := by decide +kernel
theorem d_hh_fill_20 : decode b_hh_fill 20 = .ok (.sipush 400, 3) := by decide +kernel
theorem d_hh_fill_23 : decode b_hh_fill 23 = .ok (.if_icmp .gt 14, 3) := by decide +kernel
theorem d_hh_fill_26 : decode b_hh_fill 26 = .ok (.aload 5, 2) := by decide +kernel
theorem d_hh_fill_28 : decode b_hh_fill 28 = .ok (.getfield 51, 3) := by decide +kernel
theorem d_hh_fill_31 : decode b_hh_fill 31 = .ok (.sipush 1000, 3) := by decide +kernel
theorem d_hh_fill_34 : decode b_hh_fill 34 = .ok (.if_icmp .le 5, 3) := by decide +kernel
theorem d_hh_fill_37 : decode b_hh_fill 37 = .ok (.iconst (-1), 1) := by decide +kernel
theorem d_hh_fill_38 : decode b_hh_fill 38 = .ok (.ireturn, 1) := by decide +kernel
theorem d_hh_fill_39 : decode b_hh_fill 39 = .ok (.iconst 0, 1) := by decide +kernel
theorem d_hh_fill_40 : decode b_hh_fill 40 = .ok (.istore 6, 2) := by decide +kernel
theorem d_hh_fill_42 : decode b_hh_fill 42 = .ok (.iload 6, 2) := by decide +kernel
theorem d_hh_fill_44 : decode b_hh_fill 44 = .ok (.iload 4, 2) := by decide +kernel
theorem d_hh_fill_46 : decode b_hh_fill 46 = .ok (.if_icmp .ge 23, 3) := by decide +kernel
theorem d_hh_fill_49 : decode b_hh_fill 49 = .ok (.aload 5, 2) := by decide +kernel
theorem d_hh_fill_51 : decode b_hh_fill 51 = .ok (.iload_n 2, 1) := by decide +kernel
theorem d_hh_fill_52 : decode b_hh_fill 52 = .ok (.iload 6, 2) := by decide +kernel
theorem d_hh_fill_54 : decode b_hh_fill 54 = .ok (.iload_n 3, 1) := by decide +kernel
theorem d_hh_fill_55 : decode b_hh_fill 55 = .ok (.imul, 1) := by decide +kernel
theorem d_hh_fill_56 : decode b_hh_fill 56 = .ok (.iadd, 1) := by decide +kernel
theorem d_hh_fill_57 : decode b_hh_fill 57 = .ok (.iload 6, 2) := by decide +kernel
theorem d_hh_fill_59 : decode b_hh_fill 59 = .ok (.invokevirtual 24, 3) := by decide +kernel
theorem d_hh_fill_62 : decode b_hh_fill 62 = .ok (.pop2, 1) := by decide +kernel
theorem d_hh_fill_63 : decode b_hh_fill 63 = .ok (.iinc 6 1, 3) := by decide +kernel
theorem d_hh_fill_66 : decode b_hh_fill 66 = .ok (.goto (-24), 3) := by decide +kernel
theorem d_hh_fill_69 : decode b_hh_fill 69 = .ok (.aload 5, 2) := by decide +kernel
theorem d_hh_fill_71 : decode b_hh_fill 71 = .ok (.getfield 51, 3) := by decide +kernel
theorem d_hh_fill_74 : decode b_hh_fill 74 = .ok (.ireturn, 1) := by decide +kernel
