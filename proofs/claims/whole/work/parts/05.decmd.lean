theorem d_md_init_0 : decode b_md_init 0 = .ok (.aload_n 0, 1) := by decide +kernel
theorem d_md_init_1 : decode b_md_init 1 = .ok (.invokespecial 3, 3) := by decide +kernel
theorem d_md_init_4 : decode b_md_init 4 = .ok (.aload_n 0, 1) := by decide +kernel
theorem d_md_init_5 : decode b_md_init 5 = .ok (.iconst 3, 1) := by decide +kernel
theorem d_md_init_6 : decode b_md_init 6 = .ok (.anewarray 9, 3) := by decide +kernel
theorem d_md_init_9 : decode b_md_init 9 = .ok (.dup, 1) := by decide +kernel
theorem d_md_init_10 : decode b_md_init 10 = .ok (.iconst 0, 1) := by decide +kernel
theorem d_md_init_11 : decode b_md_init 11 = .ok (.new 9, 3) := by decide +kernel
theorem d_md_init_14 : decode b_md_init 14 = .ok (.dup, 1) := by decide +kernel
theorem d_md_init_15 : decode b_md_init 15 = .ok (.invokespecial 11, 3) := by decide +kernel
theorem d_md_init_18 : decode b_md_init 18 = .ok (.aastore, 1) := by decide +kernel
theorem d_md_init_19 : decode b_md_init 19 = .ok (.dup, 1) := by decide +kernel
theorem d_md_init_20 : decode b_md_init 20 = .ok (.iconst 1, 1) := by decide +kernel
theorem d_md_init_21 : decode b_md_init 21 = .ok (.new 9, 3) := by decide +kernel
theorem d_md_init_24 : decode b_md_init 24 = .ok (.dup, 1) := by decide +kernel
theorem d_md_init_25 : decode b_md_init 25 = .ok (.invokespecial 11, 3) := by decide +kernel
theorem d_md_init_28 : decode b_md_init 28 = .ok (.aastore, 1) := by decide +kernel
theorem d_md_init_29 : decode b_md_init 29 = .ok (.dup, 1) := by decide +kernel
theorem d_md_init_30 : decode b_md_init 30 = .ok (.iconst 2, 1) := by decide +kernel
theorem d_md_init_31 : decode b_md_init 31 = .ok (.new 9, 3) := by decide +kernel
theorem d_md_init_34 : decode b_md_init 34 = .ok (.dup, 1) := by decide +kernel
theorem d_md_init_35 : decode b_md_init 35 = .ok (.invokespecial 11, 3) := by decide +kernel
theorem d_md_init_38 : decode b_md_init 38 = .ok (.aastore, 1) := by decide +kernel
theorem d_md_init_39 : decode b_md_init 39 = .ok (.putfield 12, 3) := by decide +kernel
theorem d_md_init_42 : decode b_md_init 42 = .ok (.return_, 1) := by decide +kernel
theorem d_md_put_0 : decode b_md_put 0 = .ok (.iload_n 1, 1) := by decide +kernel
theorem d_md_put_1 : decode b_md_put 1 = .ok (.invokestatic 20, 3) := by decide +kernel
theorem d_md_put_4 : decode b_md_put 4 = .ok (.ifCond .ne 7, 3) := by decide +kernel
theorem d_md_put_7 : decode b_md_put 7 = .ok (.ldc2_w 24, 3) := by decide +kernel
theorem d_md_put_10 : decode b_md_put 10 = .ok (.lreturn, 1) := by decide +kernel
theorem d_md_put_11 : decode b_md_put 11 = .ok (.aload_n 0, 1) := by decide +kernel
theorem d_md_put_12 : decode b_md_put 12 = .ok (.getfield 12, 3) := by decide +kernel
theorem d_md_put_15 : decode b_md_put 15 = .ok (.iload_n 1, 1) := by decide +kernel
theorem d_md_put_16 : decode b_md_put 16 = .ok (.aaload, 1) := by decide +kernel
theorem d_md_put_17 : decode b_md_put 17 = .ok (.iload_n 2, 1) := by decide +kernel
theorem d_md_put_18 : decode b_md_put 18 = .ok (.invokevirtual 26, 3) := by decide +kernel
theorem d_md_put_21 : decode b_md_put 21 = .ok (.istore 4, 2) := by decide +kernel
theorem d_md_put_23 : decode b_md_put 23 = .ok (.iload 4, 2) := by decide +kernel
theorem d_md_put_25 : decode b_md_put 25 = .ok (.ifCond .ge 18, 3) := by decide +kernel
theorem d_md_put_28 : decode b_md_put 28 = .ok (.aload_n 0, 1) := by decide +kernel
theorem d_md_put_29 : decode b_md_put 29 = .ok (.getfield 12, 3) := by decide +kernel
theorem d_md_put_32 : decode b_md_put 32 = .ok (.iload_n 1, 1) := by decide +kernel
theorem d_md_put_33 : decode b_md_put 33 = .ok (.aaload, 1) := by decide +kernel
theorem d_md_put_34 : decode b_md_put 34 = .ok (.iload_n 2, 1) := by decide +kernel
theorem d_md_put_35 : decode b_md_put 35 = .ok (.iload_n 3, 1) := by decide +kernel
theorem d_md_put_36 : decode b_md_put 36 = .ok (.invokevirtual 30, 3) := by decide +kernel
theorem d_md_put_39 : decode b_md_put 39 = .ok (.ldc2_w 34, 3) := by decide +kernel
theorem d_md_put_42 : decode b_md_put 42 = .ok (.lreturn, 1) := by decide +kernel
theorem d_md_put_43 : decode b_md_put 43 = .ok (.aload_n 0, 1) := by decide +kernel
theorem d_md_put_44 : decode b_md_put 44 = .ok (.getfield 12, 3) := by decide +kernel
theorem d_md_put_47 : decode b_md_put 47 = .ok (.iload_n 1, 1) := by decide +kernel
theorem d_md_put_48 : decode b_md_put 48 = .ok (.aaload, 1) := by decide +kernel
theorem d_md_put_49 : decode b_md_put 49 = .ok (.getfield 36, 3) := by decide +kernel
theorem d_md_put_52 : decode b_md_put 52 = .ok (.iload 4, 2) := by decide +kernel
theorem d_md_put_54 : decode b_md_put 54 = .ok (.iaload, 1) := by decide +kernel
theorem d_md_put_55 : decode b_md_put 55 = .ok (.istore 5, 2) := by decide +kernel
theorem d_md_put_57 : decode b_md_put 57 = .ok (.aload_n 0, 1) := by decide +kernel
theorem d_md_put_58 : decode b_md_put 58 = .ok (.getfield 12, 3) := by decide +kernel
theorem d_md_put_61 : decode b_md_put 61 = .ok (.iload_n 1, 1) := by decide +kernel
theorem d_md_put_62 : decode b_md_put 62 = .ok (.aaload, 1) := by decide +kernel
theorem d_md_put_63 : decode b_md_put 63 = .ok (.getfield 36, 3) := by decide +kernel
theorem d_md_put_66 : decode b_md_put 66 = .ok (.iload 4, 2) := by decide +kernel
theorem d_md_put_68 : decode b_md_put 68 = .ok (.iload_n 3, 1) := by decide +kernel
theorem d_md_put_69 : decode b_md_put 69 = .ok (.iastore, 1) := by decide +kernel
theorem d_md_put_70 : decode b_md_put 70 = .ok (.aload_n 0, 1) := by decide +kernel
theorem d_md_put_71 : decode b_md_put 71 = .ok (.iload_n 1, 1) := by decide +kernel
theorem d_md_put_72 : decode b_md_put 72 = .ok (.iload 4, 2) := by decide +kernel
theorem d_md_put_74 : decode b_md_put 74 = .ok (.invokevirtual 40, 3) := by decide +kernel
theorem d_md_put_77 : decode b_md_put 77 = .ok (.iload 5, 2) := by decide +kernel
theorem d_md_put_79 : decode b_md_put 79 = .ok (.i2l, 1) := by decide +kernel
theorem d_md_put_80 : decode b_md_put 80 = .ok (.lreturn, 1) := by decide +kernel
theorem d_md_isMap_0 : decode b_md_isMap 0 = .ok (.iload_n 0, 1) := by decide +kernel
theorem d_md_isMap_1 : decode b_md_isMap 1 = .ok (.ifCond .lt 12, 3) := by decide +kernel
theorem d_md_isMap_4 : decode b_md_isMap 4 = .ok (.iload_n 0, 1) := by decide +kernel
theorem d_md_isMap_5 : decode b_md_isMap 5 = .ok (.iconst 2, 1) := by decide +kernel
theorem d_md_isMap_6 : decode b_md_isMap 6 = .ok (.if_icmp .gt 7, 3) := by decide +kernel
theorem d_md_isMap_9 : decode b_md_isMap 9 = .ok (.iconst 1, 1) := by decide +kernel
theorem d_md_isMap_10 : decode b_md_isMap 10 = .ok (.goto 4, 3) := by decide +kernel
theorem d_md_isMap_13 : decode b_md_isMap 13 = .ok (.iconst 0, 1) := by decide +kernel
theorem d_md_isMap_14 : decode b_md_isMap 14 = .ok (.ireturn, 1) := by decide +kernel
theorem d_md_use_0 : decode b_md_use 0 = .ok (.iload_n 1, 1) := by decide +kernel
theorem d_md_use_1 : decode b_md_use 1 = .ok (.iconst 2, 1) := by decide +kernel
theorem d_md_use_2 : decode b_md_use 2 = .ok (.if_icmp .ne 13, 3) := by decide +kernel
theorem d_md_use_5 : decode b_md_use 5 = .ok (.aload_n 0, 1) := by decide +kernel
theorem d_md_use_6 : decode b_md_use 6 = .ok (.getfield 12, 3) := by decide +kernel
theorem d_md_use_9 : decode b_md_use 9 = .ok (.iconst 2, 1) := by decide +kernel
theorem d_md_use_10 : decode b_md_use 10 = .ok (.aaload, 1) := by decide +kernel
theorem d_md_use_11 : decode b_md_use 11 = .ok (.iload_n 2, 1) := by decide +kernel
theorem d_md_use_12 : decode b_md_use 12 = .ok (.invokevirtual 16, 3) := by decide +kernel
theorem d_md_use_15 : decode b_md_use 15 = .ok (.return_, 1) := by decide +kernel
theorem d_md_add_0 : decode b_md_add 0 = .ok (.iload_n 1, 1) := by decide +kernel
theorem d_md_add_1 : decode b_md_add 1 = .ok (.invokestatic 20, 3) := by decide +kernel
theorem d_md_add_4 : decode b_md_add 4 = .ok (.ifCond .ne 7, 3) := by decide +kernel
theorem d_md_add_7 : decode b_md_add 7 = .ok (.ldc2_w 24, 3) := by decide +kernel
theorem d_md_add_10 : decode b_md_add 10 = .ok (.lreturn, 1) := by decide +kernel
theorem d_md_add_11 : decode b_md_add 11 = .ok (.aload_n 0, 1) := by decide +kernel
theorem d_md_add_12 : decode b_md_add 12 = .ok (.getfield 12, 3) := by decide +kernel
theorem d_md_add_15 : decode b_md_add 15 = .ok (.iload_n 1, 1) := by decide +kernel
theorem d_md_add_16 : decode b_md_add 16 = .ok (.aaload, 1) := by decide +kernel
theorem d_md_add_17 : decode b_md_add 17 = .ok (.iload_n 2, 1) := by decide +kernel
theorem d_md_add_18 : decode b_md_add 18 = .ok (.invokevirtual 26, 3) := by decide +kernel
theorem d_md_add_21 : decode b_md_add 21 = .ok (.istore 4, 2) := by decide +kernel
theorem d_md_add_23 : decode b_md_add 23 = .ok (.iload 4, 2) := by decide +kernel
theorem d_md_add_25 : decode b_md_add 25 = .ok (.ifCond .ge 18, 3) := by decide +kernel
theorem d_md_add_28 : decode b_md_add 28 = .ok (.aload_n 0, 1) := by decide +kernel
theorem d_md_add_29 : decode b_md_add 29 = .ok (.getfield 12, 3) := by decide +kernel
theorem d_md_add_32 : decode b_md_add 32 = .ok (.iload_n 1, 1) := by decide +kernel
theorem d_md_add_33 : decode b_md_add 33 = .ok (.aaload, 1) := by decide +kernel
theorem d_md_add_34 : decode b_md_add 34 = .ok (.iload_n 2, 1) := by decide +kernel
theorem d_md_add_35 : decode b_md_add 35 = .ok (.iload_n 3, 1) := by decide +kernel
theorem d_md_add_36 : decode b_md_add 36 = .ok (.invokevirtual 30, 3) := by decide +kernel
theorem d_md_add_39 : decode b_md_add 39 = .ok (.ldc2_w 34, 3) := by decide +kernel
theorem d_md_add_42 : decode b_md_add 42 = .ok (.lreturn, 1) := by decide +kernel
theorem d_md_add_43 : decode b_md_add 43 = .ok (.aload_n 0, 1) := by decide +kernel
theorem d_md_add_44 : decode b_md_add 44 = .ok (.iload_n 1, 1) := by decide +kernel
theorem d_md_add_45 : decode b_md_add 45 = .ok (.iload 4, 2) := by decide +kernel
theorem d_md_add_47 : decode b_md_add 47 = .ok (.invokevirtual 40, 3) := by decide +kernel
theorem d_md_add_50 : decode b_md_add 50 = .ok (.aload_n 0, 1) := by decide +kernel
theorem d_md_add_51 : decode b_md_add 51 = .ok (.getfield 12, 3) := by decide +kernel
theorem d_md_add_54 : decode b_md_add 54 = .ok (.iload_n 1, 1) := by decide +kernel
theorem d_md_add_55 : decode b_md_add 55 = .ok (.aaload, 1) := by decide +kernel
theorem d_md_add_56 : decode b_md_add 56 = .ok (.getfield 36, 3) := by decide +kernel
theorem d_md_add_59 : decode b_md_add 59 = .ok (.iload 4, 2) := by decide +kernel
theorem d_md_add_61 : decode b_md_add 61 = .ok (.iaload, 1) := by decide +kernel
theorem d_md_add_62 : decode b_md_add 62 = .ok (.i2l, 1) := by decide +kernel
theorem d_md_add_63 : decode b_md_add 63 = .ok (.lreturn, 1) := by decide +kernel
theorem d_md_get_0 : decode b_md_get 0 = .ok (.iload_n 1, 1) := by decide +kernel
theorem d_md_get_1 : decode b_md_get 1 = .ok (.invokestatic 20, 3) := by decide +kernel
theorem d_md_get_4 : decode b_md_get 4 = .ok (.ifCond .ne 7, 3) := by decide +kernel
theorem d_md_get_7 : decode b_md_get 7 = .ok (.ldc2_w 24, 3) := by decide +kernel
theorem d_md_get_10 : decode b_md_get 10 = .ok (.lreturn, 1) := by decide +kernel
theorem d_md_get_11 : decode b_md_get 11 = .ok (.aload_n 0, 1) := by decide +kernel
theorem d_md_get_12 : decode b_md_get 12 = .ok (.getfield 12, 3) := by decide +kernel
theorem d_md_get_15 : decode b_md_get 15 = .ok (.iload_n 1, 1) := by decide +kernel
theorem d_md_get_16 : decode b_md_get 16 = .ok (.aaload, 1) := by decide +kernel
theorem d_md_get_17 : decode b_md_get 17 = .ok (.iload_n 2, 1) := by decide +kernel
theorem d_md_get_18 : decode b_md_get 18 = .ok (.invokevirtual 26, 3) := by decide +kernel
theorem d_md_get_21 : decode b_md_get 21 = .ok (.istore_n 3, 1) := by decide +kernel
theorem d_md_get_22 : decode b_md_get 22 = .ok (.iload_n 3, 1) := by decide +kernel
theorem d_md_get_23 : decode b_md_get 23 = .ok (.ifCond .ge 7, 3) := by decide +kernel
theorem d_md_get_26 : decode b_md_get 26 = .ok (.ldc2_w 34, 3) := by decide +kernel
theorem d_md_get_29 : decode b_md_get 29 = .ok (.lreturn, 1) := by decide +kernel
theorem d_md_get_30 : decode b_md_get 30 = .ok (.aload_n 0, 1) := by decide +kernel
theorem d_md_get_31 : decode b_md_get 31 = .ok (.iload_n 1, 1) := by decide +kernel
theorem d_md_get_32 : decode b_md_get 32 = .ok (.iload_n 3, 1) := by decide +kernel
theorem d_md_get_33 : decode b_md_get 33 = .ok (.invokevirtual 40, 3) := by decide +kernel
theorem d_md_get_36 : decode b_md_get 36 = .ok (.aload_n 0, 1) := by decide +kernel
theorem d_md_get_37 : decode b_md_get 37 = .ok (.getfield 12, 3) := by decide +kernel
theorem d_md_get_40 : decode b_md_get 40 = .ok (.iload_n 1, 1) := by decide +kernel
theorem d_md_get_41 : decode b_md_get 41 = .ok (.aaload, 1) := by decide +kernel
theorem d_md_get_42 : decode b_md_get 42 = .ok (.getfield 36, 3) := by decide +kernel
theorem d_md_get_45 : decode b_md_get 45 = .ok (.iload_n 3, 1) := by decide +kernel
theorem d_md_get_46 : decode b_md_get 46 = .ok (.iaload, 1) := by decide +kernel
theorem d_md_get_47 : decode b_md_get 47 = .ok (.i2l, 1) := by decide +kernel
theorem d_md_get_48 : decode b_md_get 48 = .ok (.lreturn, 1) := by decide +kernel
theorem d_md_give_0 : decode b_md_give 0 = .ok (.aload_n 0, 1) := by decide +kernel
theorem d_md_give_1 : decode b_md_give 1 = .ok (.iload_n 1, 1) := by decide +kernel
theorem d_md_give_2 : decode b_md_give 2 = .ok (.iload_n 2, 1) := by decide +kernel
theorem d_md_give_3 : decode b_md_give 3 = .ok (.invokevirtual 43, 3) := by decide +kernel
theorem d_md_give_6 : decode b_md_give 6 = .ok (.lstore 4, 2) := by decide +kernel
theorem d_md_give_8 : decode b_md_give 8 = .ok (.lload 4, 2) := by decide +kernel
theorem d_md_give_10 : decode b_md_give 10 = .ok (.ldc2_w 34, 3) := by decide +kernel
theorem d_md_give_13 : decode b_md_give 13 = .ok (.lcmp, 1) := by decide +kernel
theorem d_md_give_14 : decode b_md_give 14 = .ok (.ifCond .ne 8, 3) := by decide +kernel
theorem d_md_give_17 : decode b_md_give 17 = .ok (.iload_n 3, 1) := by decide +kernel
theorem d_md_give_18 : decode b_md_give 18 = .ok (.i2l, 1) := by decide +kernel
theorem d_md_give_19 : decode b_md_give 19 = .ok (.goto 5, 3) := by decide +kernel
theorem d_md_give_22 : decode b_md_give 22 = .ok (.lload 4, 2) := by decide +kernel
theorem d_md_give_24 : decode b_md_give 24 = .ok (.lreturn, 1) := by decide +kernel
theorem d_md_remove_0 : decode b_md_remove 0 = .ok (.iload_n 1, 1) := by decide +kernel
theorem d_md_remove_1 : decode b_md_remove 1 = .ok (.invokestatic 20, 3) := by decide +kernel
theorem d_md_remove_4 : decode b_md_remove 4 = .ok (.ifCond .ne 7, 3) := by decide +kernel
theorem d_md_remove_7 : decode b_md_remove 7 = .ok (.ldc2_w 24, 3) := by decide +kernel
theorem d_md_remove_10 : decode b_md_remove 10 = .ok (.lreturn, 1) := by decide +kernel
theorem d_md_remove_11 : decode b_md_remove 11 = .ok (.aload_n 0, 1) := by decide +kernel
theorem d_md_remove_12 : decode b_md_remove 12 = .ok (.getfield 12, 3) := by decide +kernel
theorem d_md_remove_15 : decode b_md_remove 15 = .ok (.iload_n 1, 1) := by decide +kernel
theorem d_md_remove_16 : decode b_md_remove 16 = .ok (.aaload, 1) := by decide +kernel
theorem d_md_remove_17 : decode b_md_remove 17 = .ok (.iload_n 2, 1) := by decide +kernel
theorem d_md_remove_18 : decode b_md_remove 18 = .ok (.invokevirtual 26, 3) := by decide +kernel
theorem d_md_remove_21 : decode b_md_remove 21 = .ok (.istore_n 3, 1) := by decide +kernel
theorem d_md_remove_22 : decode b_md_remove 22 = .ok (.iload_n 3, 1) := by decide +kernel
theorem d_md_remove_23 : decode b_md_remove 23 = .ok (.ifCond .ge 7, 3) := by decide +kernel
theorem d_md_remove_26 : decode b_md_remove 26 = .ok (.ldc2_w 34, 3) := by decide +kernel
theorem d_md_remove_29 : decode b_md_remove 29 = .ok (.lreturn, 1) := by decide +kernel
theorem d_md_remove_30 : decode b_md_remove 30 = .ok (.aload_n 0, 1) := by decide +kernel
theorem d_md_remove_31 : decode b_md_remove 31 = .ok (.getfield 12, 3) := by decide +kernel
theorem d_md_remove_34 : decode b_md_remove 34 = .ok (.iload_n 1, 1) := by decide +kernel
theorem d_md_remove_35 : decode b_md_remove 35 = .ok (.aaload, 1) := by decide +kernel
theorem d_md_remove_36 : decode b_md_remove 36 = .ok (.getfield 36, 3) := by decide +kernel
theorem d_md_remove_39 : decode b_md_remove 39 = .ok (.iload_n 3, 1) := by decide +kernel
theorem d_md_remove_40 : decode b_md_remove 40 = .ok (.iaload, 1) := by decide +kernel
theorem d_md_remove_41 : decode b_md_remove 41 = .ok (.istore 4, 2) := by decide +kernel
theorem d_md_remove_43 : decode b_md_remove 43 = .ok (.aload_n 0, 1) := by decide +kernel
theorem d_md_remove_44 : decode b_md_remove 44 = .ok (.getfield 12, 3) := by decide +kernel
theorem d_md_remove_47 : decode b_md_remove 47 = .ok (.iload_n 1, 1) := by decide +kernel
theorem d_md_remove_48 : decode b_md_remove 48 = .ok (.aaload, 1) := by decide +kernel
theorem d_md_remove_49 : decode b_md_remove 49 = .ok (.iload_n 3, 1) := by decide +kernel
theorem d_md_remove_50 : decode b_md_remove 50 = .ok (.invokevirtual 47, 3) := by decide +kernel
theorem d_md_remove_53 : decode b_md_remove 53 = .ok (.iload 4, 2) := by decide +kernel
theorem d_md_remove_55 : decode b_md_remove 55 = .ok (.i2l, 1) := by decide +kernel
theorem d_md_remove_56 : decode b_md_remove 56 = .ok (.lreturn, 1) := by decide +kernel
theorem d_md_take_0 : decode b_md_take 0 = .ok (.iload_n 1, 1) := by decide +kernel
theorem d_md_take_1 : decode b_md_take 1 = .ok (.invokestatic 20, 3) := by decide +kernel
theorem d_md_take_4 : decode b_md_take 4 = .ok (.ifCond .eq 16, 3) := by decide +kernel
theorem d_md_take_7 : decode b_md_take 7 = .ok (.aload_n 0, 1) := by decide +kernel
theorem d_md_take_8 : decode b_md_take 8 = .ok (.getfield 12, 3) := by decide +kernel
theorem d_md_take_11 : decode b_md_take 11 = .ok (.iload_n 1, 1) := by decide +kernel
theorem d_md_take_12 : decode b_md_take 12 = .ok (.aaload, 1) := by decide +kernel
theorem d_md_take_13 : decode b_md_take 13 = .ok (.iload_n 2, 1) := by decide +kernel
theorem d_md_take_14 : decode b_md_take 14 = .ok (.invokevirtual 26, 3) := by decide +kernel
theorem d_md_take_17 : decode b_md_take 17 = .ok (.goto 4, 3) := by decide +kernel
theorem d_md_take_20 : decode b_md_take 20 = .ok (.iconst (-1), 1) := by decide +kernel
theorem d_md_take_21 : decode b_md_take 21 = .ok (.istore 4, 2) := by decide +kernel
theorem d_md_take_23 : decode b_md_take 23 = .ok (.iload 4, 2) := by decide +kernel
theorem d_md_take_25 : decode b_md_take 25 = .ok (.ifCond .lt 19, 3) := by decide +kernel
theorem d_md_take_28 : decode b_md_take 28 = .ok (.aload_n 0, 1) := by decide +kernel
theorem d_md_take_29 : decode b_md_take 29 = .ok (.getfield 12, 3) := by decide +kernel
theorem d_md_take_32 : decode b_md_take 32 = .ok (.iload_n 1, 1) := by decide +kernel
theorem d_md_take_33 : decode b_md_take 33 = .ok (.aaload, 1) := by decide +kernel
theorem d_md_take_34 : decode b_md_take 34 = .ok (.getfield 36, 3) := by decide +kernel
theorem d_md_take_37 : decode b_md_take 37 = .ok (.iload 4, 2) := by decide +kernel
theorem d_md_take_39 : decode b_md_take 39 = .ok (.iaload, 1) := by decide +kernel
theorem d_md_take_40 : decode b_md_take 40 = .ok (.iload_n 3, 1) := by decide +kernel
theorem d_md_take_41 : decode b_md_take 41 = .ok (.if_icmp .eq 5, 3) := by decide +kernel
theorem d_md_take_44 : decode b_md_take 44 = .ok (.iconst 0, 1) := by decide +kernel
theorem d_md_take_45 : decode b_md_take 45 = .ok (.ireturn, 1) := by decide +kernel
theorem d_md_take_46 : decode b_md_take 46 = .ok (.aload_n 0, 1) := by decide +kernel
theorem d_md_take_47 : decode b_md_take 47 = .ok (.getfield 12, 3) := by decide +kernel
theorem d_md_take_50 : decode b_md_take 50 = .ok (.iload_n 1, 1) := by decide +kernel
theorem d_md_take_51 : decode b_md_take 51 = .ok (.aaload, 1) := by decide +kernel
theorem d_md_take_52 : decode b_md_take 52 = .ok (.iload 4, 2) := by decide +kernel
theorem d_md_take_54 : decode b_md_take 54 = .ok (.invokevirtual 47, 3) := by decide +kernel
theorem d_md_take_57 : decode b_md_take 57 = .ok (.iconst 1, 1) := by decide +kernel
theorem d_md_take_58 : decode b_md_take 58 = .ok (.ireturn, 1) := by decide +kernel
theorem d_md_has_0 : decode b_md_has 0 = .ok (.iload_n 1, 1) := by decide +kernel
theorem d_md_has_1 : decode b_md_has 1 = .ok (.invokestatic 20, 3) := by decide +kernel
theorem d_md_has_4 : decode b_md_has 4 = .ok (.ifCond .eq 12, 3) := by decide +kernel
theorem d_md_has_7 : decode b_md_has 7 = .ok (.iload_n 2, 1) := by decide +kernel
theorem d_md_has_8 : decode b_md_has 8 = .ok (.ifCond .eq 10, 3) := by decide +kernel
theorem d_md_has_11 : decode b_md_has 11 = .ok (.iload_n 2, 1) := by decide +kernel
theorem d_md_has_12 : decode b_md_has 12 = .ok (.iconst 1, 1) := by decide +kernel
theorem d_md_has_13 : decode b_md_has 13 = .ok (.if_icmp .eq 5, 3) := by decide +kernel
theorem d_md_has_16 : decode b_md_has 16 = .ok (.iconst 0, 1) := by decide +kernel
theorem d_md_has_17 : decode b_md_has 17 = .ok (.ireturn, 1) := by decide +kernel
theorem d_md_has_18 : decode b_md_has 18 = .ok (.iload_n 2, 1) := by decide +kernel
theorem d_md_has_19 : decode b_md_has 19 = .ok (.ifCond .ne 22, 3) := by decide +kernel
theorem d_md_has_22 : decode b_md_has 22 = .ok (.aload_n 0, 1) := by decide +kernel
theorem d_md_has_23 : decode b_md_has 23 = .ok (.getfield 12, 3) := by decide +kernel
theorem d_md_has_26 : decode b_md_has 26 = .ok (.iload_n 1, 1) := by decide +kernel
theorem d_md_has_27 : decode b_md_has 27 = .ok (.aaload, 1) := by decide +kernel
theorem d_md_has_28 : decode b_md_has 28 = .ok (.iload_n 3, 1) := by decide +kernel
theorem d_md_has_29 : decode b_md_has 29 = .ok (.invokevirtual 26, 3) := by decide +kernel
theorem d_md_has_32 : decode b_md_has 32 = .ok (.ifCond .lt 7, 3) := by decide +kernel
theorem d_md_has_35 : decode b_md_has 35 = .ok (.iconst 1, 1) := by decide +kernel
theorem d_md_has_36 : decode b_md_has 36 = .ok (.goto 4, 3) := by decide +kernel
theorem d_md_has_39 : decode b_md_has 39 = .ok (.iconst 0, 1) := by decide +kernel
theorem d_md_has_40 : decode b_md_has 40 = .ok (.ireturn, 1) := by decide +kernel
theorem d_md_has_41 : decode b_md_has 41 = .ok (.iconst 0, 1) := by decide +kernel
theorem d_md_has_42 : decode b_md_has 42 = .ok (.istore 4, 2) := by decide +kernel
theorem d_md_has_44 : decode b_md_has 44 = .ok (.iload 4, 2) := by decide +kernel
theorem d_md_has_46 : decode b_md_has 46 = .ok (.aload_n 0, 1) := by decide +kernel
theorem d_md_has_47 : decode b_md_has 47 = .ok (.getfield 12, 3) := by decide +kernel
theorem d_md_has_50 : decode b_md_has 50 = .ok (.iload_n 1, 1) := by decide +kernel
theorem d_md_has_51 : decode b_md_has 51 = .ok (.aaload, 1) := by decide +kernel
theorem d_md_has_52 : decode b_md_has 52 = .ok (.getfield 50, 3) := by decide +kernel
theorem d_md_has_55 : decode b_md_has 55 = .ok (.if_icmp .ge 37, 3) := by decide +kernel
theorem d_md_has_58 : decode b_md_has 58 = .ok (.aload_n 0, 1) := by decide +kernel
theorem d_md_has_59 : decode b_md_has 59 = .ok (.getfield 12, 3) := by decide +kernel
theorem d_md_has_62 : decode b_md_has 62 = .ok (.iload_n 1, 1) := by decide +kernel
theorem d_md_has_63 : decode b_md_has 63 = .ok (.aaload, 1) := by decide +kernel
theorem d_md_has_64 : decode b_md_has 64 = .ok (.getfield 36, 3) := by decide +kernel
theorem d_md_has_67 : decode b_md_has 67 = .ok (.aload_n 0, 1) := by decide +kernel
theorem d_md_has_68 : decode b_md_has 68 = .ok (.getfield 12, 3) := by decide +kernel
theorem d_md_has_71 : decode b_md_has 71 = .ok (.iload_n 1, 1) := by decide +kernel
theorem d_md_has_72 : decode b_md_has 72 = .ok (.aaload, 1) := by decide +kernel
theorem d_md_has_73 : decode b_md_has 73 = .ok (.getfield 54, 3) := by decide +kernel
theorem d_md_has_76 : decode b_md_has 76 = .ok (.iload 4, 2) := by decide +kernel
theorem d_md_has_78 : decode b_md_has 78 = .ok (.iaload, 1) := by decide +kernel
theorem d_md_has_79 : decode b_md_has 79 = .ok (.iaload, 1) := by decide +kernel
theorem d_md_has_80 : decode b_md_has 80 = .ok (.iload_n 3, 1) := by decide +kernel
theorem d_md_has_81 : decode b_md_has 81 = .ok (.if_icmp .ne 5, 3) := by decide +kernel
theorem d_md_has_84 : decode b_md_has 84 = .ok (.iconst 1, 1) := by decide +kernel
theorem d_md_has_85 : decode b_md_has 85 = .ok (.ireturn, 1) := by decide +kernel
theorem d_md_has_86 : decode b_md_has 86 = .ok (.iinc 4 1, 3) := by decide +kernel
theorem d_md_has_89 : decode b_md_has 89 = .ok (.goto (-45), 3) := by decide +kernel
theorem d_md_has_92 : decode b_md_has 92 = .ok (.iconst 0, 1) := by decide +kernel
theorem d_md_has_93 : decode b_md_has 93 = .ok (.ireturn, 1) := by decide +kernel
theorem d_md_size_0 : decode b_md_size 0 = .ok (.iload_n 1, 1) := by decide +kernel
theorem d_md_size_1 : decode b_md_size 1 = .ok (.invokestatic 20, 3) := by decide +kernel
theorem d_md_size_4 : decode b_md_size 4 = .ok (.ifCond .eq 15, 3) := by decide +kernel
theorem d_md_size_7 : decode b_md_size 7 = .ok (.aload_n 0, 1) := by decide +kernel
theorem d_md_size_8 : decode b_md_size 8 = .ok (.getfield 12, 3) := by decide +kernel
theorem d_md_size_11 : decode b_md_size 11 = .ok (.iload_n 1, 1) := by decide +kernel
theorem d_md_size_12 : decode b_md_size 12 = .ok (.aaload, 1) := by decide +kernel
theorem d_md_size_13 : decode b_md_size 13 = .ok (.getfield 50, 3) := by decide +kernel
theorem d_md_size_16 : decode b_md_size 16 = .ok (.goto 4, 3) := by decide +kernel
theorem d_md_size_19 : decode b_md_size 19 = .ok (.iconst (-1), 1) := by decide +kernel
theorem d_md_size_20 : decode b_md_size 20 = .ok (.ireturn, 1) := by decide +kernel
theorem d_md_clear_0 : decode b_md_clear 0 = .ok (.iload_n 1, 1) := by decide +kernel
theorem d_md_clear_1 : decode b_md_clear 1 = .ok (.invokestatic 20, 3) := by decide +kernel
theorem d_md_clear_4 : decode b_md_clear 4 = .ok (.ifCond .ne 5, 3) := by decide +kernel
theorem d_md_clear_7 : decode b_md_clear 7 = .ok (.iconst (-1), 1) := by decide +kernel
theorem d_md_clear_8 : decode b_md_clear 8 = .ok (.ireturn, 1) := by decide +kernel
theorem d_md_clear_9 : decode b_md_clear 9 = .ok (.aload_n 0, 1) := by decide +kernel
theorem d_md_clear_10 : decode b_md_clear 10 = .ok (.getfield 12, 3) := by decide +kernel
theorem d_md_clear_13 : decode b_md_clear 13 = .ok (.iload_n 1, 1) := by decide +kernel
theorem d_md_clear_14 : decode b_md_clear 14 = .ok (.aaload, 1) := by decide +kernel
theorem d_md_clear_15 : decode b_md_clear 15 = .ok (.getfield 50, 3) := by decide +kernel
theorem d_md_clear_18 : decode b_md_clear 18 = .ok (.istore_n 2, 1) := by decide +kernel
theorem d_md_clear_19 : decode b_md_clear 19 = .ok (.aload_n 0, 1) := by decide +kernel
theorem d_md_clear_20 : decode b_md_clear 20 = .ok (.getfield 12, 3) := by decide +kernel
theorem d_md_clear_23 : decode b_md_clear 23 = .ok (.iload_n 1, 1) := by decide +kernel
theorem d_md_clear_24 : decode b_md_clear 24 = .ok (.aaload, 1) := by decide +kernel
theorem d_md_clear_25 : decode b_md_clear 25 = .ok (.invokevirtual 57, 3) := by decide +kernel
theorem d_md_clear_28 : decode b_md_clear 28 = .ok (.iload_n 2, 1) := by decide +kernel
theorem d_md_clear_29 : decode b_md_clear 29 = .ok (.ireturn, 1) := by decide +kernel
theorem d_md_pour_0 : decode b_md_pour 0 = .ok (.iload_n 1, 1) := by decide +kernel
theorem d_md_pour_1 : decode b_md_pour 1 = .ok (.invokestatic 20, 3) := by decide +kernel
theorem d_md_pour_4 : decode b_md_pour 4 = .ok (.ifCond .eq 40, 3) := by decide +kernel
theorem d_md_pour_7 : decode b_md_pour 7 = .ok (.iload_n 2, 1) := by decide +kernel
theorem d_md_pour_8 : decode b_md_pour 8 = .ok (.invokestatic 20, 3) := by decide +kernel
theorem d_md_pour_11 : decode b_md_pour 11 = .ok (.ifCond .eq 33, 3) := by decide +kernel
theorem d_md_pour_14 : decode b_md_pour 14 = .ok (.iload_n 1, 1) := by decide +kernel
theorem d_md_pour_15 : decode b_md_pour 15 = .ok (.iload_n 2, 1) := by decide +kernel
theorem d_md_pour_16 : decode b_md_pour 16 = .ok (.if_icmp .eq 28, 3) := by decide +kernel
theorem d_md_pour_19 : decode b_md_pour 19 = .ok (.aload_n 0, 1) := by decide +kernel
theorem d_md_pour_20 : decode b_md_pour 20 = .ok (.getfield 12, 3) := by decide +kernel
theorem d_md_pour_23 : decode b_md_pour 23 = .ok (.iload_n 1, 1) := by decide +kernel
theorem d_md_pour_24 : decode b_md_pour 24 = .ok (.aaload, 1) := by decide +kernel
theorem d_md_pour_25 : decode b_md_pour 25 = .ok (.getfield 50, 3) := by decide +kernel
theorem d_md_pour_28 : decode b_md_pour 28 = .ok (.aload_n 0, 1) := by decide +kernel
theorem d_md_pour_29 : decode b_md_pour 29 = .ok (.getfield 12, 3) := by decide +kernel
theorem d_md_pour_32 : decode b_md_pour 32 = .ok (.iload_n 2, 1) := by decide +kernel
theorem d_md_pour_33 : decode b_md_pour 33 = .ok (.aaload, 1) := by decide +kernel
theorem d_md_pour_34 : decode b_md_pour 34 = .ok (.getfield 50, 3) := by decide +kernel
theorem d_md_pour_37 : decode b_md_pour 37 = .ok (.iadd, 1) := by decide +kernel
theorem d_md_pour_38 : decode b_md_pour 38 = .ok (.sipush 1400, 3) := by decide +kernel
theorem d_md_pour_41 : decode b_md_pour 41 = .ok (.if_icmp .le 5, 3) := by decide +kernel
theorem d_md_pour_44 : decode b_md_pour 44 = .ok (.iconst (-1), 1) := by decide +kernel
theorem d_md_pour_45 : decode b_md_pour 45 = .ok (.ireturn, 1) := by decide +kernel
theorem d_md_pour_46 : decode b_md_pour 46 = .ok (.iload_n 1, 1) := by decide +kernel
theorem d_md_pour_47 : decode b_md_pour 47 = .ok (.ifCond .ne 66, 3) := by decide +kernel
theorem d_md_pour_50 : decode b_md_pour 50 = .ok (.iload_n 2, 1) := by decide +kernel
theorem d_md_pour_51 : decode b_md_pour 51 = .ok (.iconst 1, 1) := by decide +kernel
theorem d_md_pour_52 : decode b_md_pour 52 = .ok (.if_icmp .eq 5, 3) := by decide +kernel
theorem d_md_pour_55 : decode b_md_pour 55 = .ok (.iconst (-1), 1) := by decide +kernel
theorem d_md_pour_56 : decode b_md_pour 56 = .ok (.ireturn, 1) := by decide +kernel
theorem d_md_pour_57 : decode b_md_pour 57 = .ok (.iconst 0, 1) := by decide +kernel
theorem d_md_pour_58 : decode b_md_pour 58 = .ok (.istore_n 3, 1) := by decide +kernel
theorem d_md_pour_59 : decode b_md_pour 59 = .ok (.iload_n 3, 1) := by decide +kernel
theorem d_md_pour_60 : decode b_md_pour 60 = .ok (.aload_n 0, 1) := by decide +kernel
theorem d_md_pour_61 : decode b_md_pour 61 = .ok (.getfield 12, 3) := by decide +kernel
theorem d_md_pour_64 : decode b_md_pour 64 = .ok (.iconst 0, 1) := by decide +kernel
theorem d_md_pour_65 : decode b_md_pour 65 = .ok (.aaload, 1) := by decide +kernel
theorem d_md_pour_66 : decode b_md_pour 66 = .ok (.getfield 50, 3) := by decide +kernel
theorem d_md_pour_69 : decode b_md_pour 69 = .ok (.if_icmp .ge 44, 3) := by decide +kernel
theorem d_md_pour_72 : decode b_md_pour 72 = .ok (.aload_n 0, 1) := by decide +kernel
theorem d_md_pour_73 : decode b_md_pour 73 = .ok (.getfield 12, 3) := by decide +kernel
theorem d_md_pour_76 : decode b_md_pour 76 = .ok (.iconst 1, 1) := by decide +kernel
theorem d_md_pour_77 : decode b_md_pour 77 = .ok (.aaload, 1) := by decide +kernel
theorem d_md_pour_78 : decode b_md_pour 78 = .ok (.aload_n 0, 1) := by decide +kernel
theorem d_md_pour_79 : decode b_md_pour 79 = .ok (.getfield 12, 3) := by decide +kernel
theorem d_md_pour_82 : decode b_md_pour 82 = .ok (.iconst 0, 1) := by decide +kernel
theorem d_md_pour_83 : decode b_md_pour 83 = .ok (.aaload, 1) := by decide +kernel
theorem d_md_pour_84 : decode b_md_pour 84 = .ok (.getfield 60, 3) := by decide +kernel
theorem d_md_pour_87 : decode b_md_pour 87 = .ok (.aload_n 0, 1) := by decide +kernel
theorem d_md_pour_88 : decode b_md_pour 88 = .ok (.getfield 12, 3) := by decide +kernel
theorem d_md_pour_91 : decode b_md_pour 91 = .ok (.iconst 0, 1) := by decide +kernel
theorem d_md_pour_92 : decode b_md_pour 92 = .ok (.aaload, 1) := by decide +kernel
theorem d_md_pour_93 : decode b_md_pour 93 = .ok (.getfield 54, 3) := by decide +kernel
theorem d_md_pour_96 : decode b_md_pour 96 = .ok (.iload_n 3, 1) := by decide +kernel
theorem d_md_pour_97 : decode b_md_pour 97 = .ok (.iaload, 1) := by decide +kernel
theorem d_md_pour_98 : decode b_md_pour 98 = .ok (.iaload, 1) := by decide +kernel
theorem d_md_pour_99 : decode b_md_pour 99 = .ok (.invokevirtual 26, 3) := by decide +kernel
theorem d_md_pour_102 : decode b_md_pour 102 = .ok (.ifCond .ge 5, 3) := by decide +kernel
theorem d_md_pour_105 : decode b_md_pour 105 = .ok (.iconst (-1), 1) := by decide +kernel
theorem d_md_pour_106 : decode b_md_pour 106 = .ok (.ireturn, 1) := by decide +kernel
theorem d_md_pour_107 : decode b_md_pour 107 = .ok (.iinc 3 1, 3) := by decide +kernel
theorem d_md_pour_110 : decode b_md_pour 110 = .ok (.goto (-51), 3) := by decide +kernel
theorem d_md_pour_113 : decode b_md_pour 113 = .ok (.aload_n 0, 1) := by decide +kernel
theorem d_md_pour_114 : decode b_md_pour 114 = .ok (.getfield 12, 3) := by decide +kernel
theorem d_md_pour_117 : decode b_md_pour 117 = .ok (.iload_n 1, 1) := by decide +kernel
theorem d_md_pour_118 : decode b_md_pour 118 = .ok (.aaload, 1) := by decide +kernel
theorem d_md_pour_119 : decode b_md_pour 119 = .ok (.getfield 63, 3) := by decide +kernel
theorem d_md_pour_122 : decode b_md_pour 122 = .ok (.istore_n 3, 1) := by decide +kernel
theorem d_md_pour_123 : decode b_md_pour 123 = .ok (.iload_n 3, 1) := by decide +kernel
theorem d_md_pour_124 : decode b_md_pour 124 = .ok (.ifCond .lt 46, 3) := by decide +kernel
theorem d_md_pour_127 : decode b_md_pour 127 = .ok (.aload_n 0, 1) := by decide +kernel
theorem d_md_pour_128 : decode b_md_pour 128 = .ok (.iload_n 2, 1) := by decide +kernel
theorem d_md_pour_129 : decode b_md_pour 129 = .ok (.aload_n 0, 1) := by decide +kernel
theorem d_md_pour_130 : decode b_md_pour 130 = .ok (.getfield 12, 3) := by decide +kernel
theorem d_md_pour_133 : decode b_md_pour 133 = .ok (.iload_n 1, 1) := by decide +kernel
theorem d_md_pour_134 : decode b_md_pour 134 = .ok (.aaload, 1) := by decide +kernel
theorem d_md_pour_135 : decode b_md_pour 135 = .ok (.getfield 60, 3) := by decide +kernel
theorem d_md_pour_138 : decode b_md_pour 138 = .ok (.iload_n 3, 1) := by decide +kernel
theorem d_md_pour_139 : decode b_md_pour 139 = .ok (.iaload, 1) := by decide +kernel
theorem d_md_pour_140 : decode b_md_pour 140 = .ok (.aload_n 0, 1) := by decide +kernel
theorem d_md_pour_141 : decode b_md_pour 141 = .ok (.getfield 12, 3) := by decide +kernel
theorem d_md_pour_144 : decode b_md_pour 144 = .ok (.iload_n 1, 1) := by decide +kernel
theorem d_md_pour_145 : decode b_md_pour 145 = .ok (.aaload, 1) := by decide +kernel
theorem d_md_pour_146 : decode b_md_pour 146 = .ok (.getfield 36, 3) := by decide +kernel
theorem d_md_pour_149 : decode b_md_pour 149 = .ok (.iload_n 3, 1) := by decide +kernel
theorem d_md_pour_150 : decode b_md_pour 150 = .ok (.iaload, 1) := by decide +kernel
theorem d_md_pour_151 : decode b_md_pour 151 = .ok (.invokevirtual 66, 3) := by decide +kernel
theorem d_md_pour_154 : decode b_md_pour 154 = .ok (.pop2, 1) := by decide +kernel
theorem d_md_pour_155 : decode b_md_pour 155 = .ok (.aload_n 0, 1) := by decide +kernel
theorem d_md_pour_156 : decode b_md_pour 156 = .ok (.getfield 12, 3) := by decide +kernel
theorem d_md_pour_159 : decode b_md_pour 159 = .ok (.iload_n 1, 1) := by decide +kernel
theorem d_md_pour_160 : decode b_md_pour 160 = .ok (.aaload, 1) := by decide +kernel
theorem d_md_pour_161 : decode b_md_pour 161 = .ok (.getfield 70, 3) := by decide +kernel
theorem d_md_pour_164 : decode b_md_pour 164 = .ok (.iload_n 3, 1) := by decide +kernel
theorem d_md_pour_165 : decode b_md_pour 165 = .ok (.iaload, 1) := by decide +kernel
theorem d_md_pour_166 : decode b_md_pour 166 = .ok (.istore_n 3, 1) := by decide +kernel
theorem d_md_pour_167 : decode b_md_pour 167 = .ok (.goto (-44), 3) := by decide +kernel
theorem d_md_pour_170 : decode b_md_pour 170 = .ok (.aload_n 0, 1) := by decide +kernel
theorem d_md_pour_171 : decode b_md_pour 171 = .ok (.getfield 12, 3) := by decide +kernel
theorem d_md_pour_174 : decode b_md_pour 174 = .ok (.iload_n 2, 1) := by decide +kernel
theorem d_md_pour_175 : decode b_md_pour 175 = .ok (.aaload, 1) := by decide +kernel
theorem d_md_pour_176 : decode b_md_pour 176 = .ok (.getfield 50, 3) := by decide +kernel
theorem d_md_pour_179 : decode b_md_pour 179 = .ok (.ireturn, 1) := by decide +kernel
theorem d_md_entry_0 : decode b_md_entry 0 = .ok (.iload_n 1, 1) := by decide +kernel
theorem d_md_entry_1 : decode b_md_entry 1 = .ok (.iconst 1, 1) := by decide +kernel
theorem d_md_entry_2 : decode b_md_entry 2 = .ok (.if_icmp .eq 8, 3) := by decide +kernel
theorem d_md_entry_5 : decode b_md_entry 5 = .ok (.iload_n 1, 1) := by decide +kernel
theorem d_md_entry_6 : decode b_md_entry 6 = .ok (.iconst 2, 1) := by decide +kernel
theorem d_md_entry_7 : decode b_md_entry 7 = .ok (.if_icmp .ne 12, 3) := by decide +kernel
theorem d_md_entry_10 : decode b_md_entry 10 = .ok (.iload_n 3, 1) := by decide +kernel
theorem d_md_entry_11 : decode b_md_entry 11 = .ok (.ifCond .eq 12, 3) := by decide +kernel
theorem d_md_entry_14 : decode b_md_entry 14 = .ok (.iload_n 3, 1) := by decide +kernel
theorem d_md_entry_15 : decode b_md_entry 15 = .ok (.iconst 1, 1) := by decide +kernel
theorem d_md_entry_16 : decode b_md_entry 16 = .ok (.if_icmp .eq 7, 3) := by decide +kernel
theorem d_md_entry_19 : decode b_md_entry 19 = .ok (.ldc2_w 24, 3) := by decide +kernel
theorem d_md_entry_22 : decode b_md_entry 22 = .ok (.lreturn, 1) := by decide +kernel
theorem d_md_entry_23 : decode b_md_entry 23 = .ok (.iload_n 2, 1) := by decide +kernel
theorem d_md_entry_24 : decode b_md_entry 24 = .ok (.ifCond .lt 16, 3) := by decide +kernel
theorem d_md_entry_27 : decode b_md_entry 27 = .ok (.iload_n 2, 1) := by decide +kernel
theorem d_md_entry_28 : decode b_md_entry 28 = .ok (.aload_n 0, 1) := by decide +kernel
theorem d_md_entry_29 : decode b_md_entry 29 = .ok (.getfield 12, 3) := by decide +kernel
theorem d_md_entry_32 : decode b_md_entry 32 = .ok (.iload_n 1, 1) := by decide +kernel
theorem d_md_entry_33 : decode b_md_entry 33 = .ok (.aaload, 1) := by decide +kernel
theorem d_md_entry_34 : decode b_md_entry 34 = .ok (.getfield 50, 3) := by decide +kernel
theorem d_md_entry_37 : decode b_md_entry 37 = .ok (.if_icmp .lt 7, 3) := by decide +kernel
theorem d_md_entry_40 : decode b_md_entry 40 = .ok (.ldc2_w 34, 3) := by decide +kernel
theorem d_md_entry_43 : decode b_md_entry 43 = .ok (.lreturn, 1) := by decide +kernel
theorem d_md_entry_44 : decode b_md_entry 44 = .ok (.aload_n 0, 1) := by decide +kernel
theorem d_md_entry_45 : decode b_md_entry 45 = .ok (.getfield 12, 3) := by decide +kernel
theorem d_md_entry_48 : decode b_md_entry 48 = .ok (.iload_n 1, 1) := by decide +kernel
theorem d_md_entry_49 : decode b_md_entry 49 = .ok (.aaload, 1) := by decide +kernel
theorem d_md_entry_50 : decode b_md_entry 50 = .ok (.getfield 63, 3) := by decide +kernel
theorem d_md_entry_53 : decode b_md_entry 53 = .ok (.istore 4, 2) := by decide +kernel
theorem d_md_entry_55 : decode b_md_entry 55 = .ok (.iconst 0, 1) := by decide +kernel
theorem d_md_entry_56 : decode b_md_entry 56 = .ok (.istore 5, 2) := by decide +kernel
theorem d_md_entry_58 : decode b_md_entry 58 = .ok (.iload 5, 2) := by decide +kernel
theorem d_md_entry_60 : decode b_md_entry 60 = .ok (.iload_n 2, 1) := by decide +kernel
theorem d_md_entry_61 : decode b_md_entry 61 = .ok (.if_icmp .ge 23, 3) := by decide +kernel
theorem d_md_entry_64 : decode b_md_entry 64 = .ok (.aload_n 0, 1) := by decide +kernel
theorem d_md_entry_65 : decode b_md_entry 65 = .ok (.getfield 12, 3) := by decide +kernel
theorem d_md_entry_68 : decode b_md_entry 68 = .ok (.iload_n 1, 1) := by decide +kernel
theorem d_md_entry_69 : decode b_md_entry 69 = .ok (.aaload, 1) := by decide +kernel
theorem d_md_entry_70 : decode b_md_entry 70 = .ok (.getfield 70, 3) := by decide +kernel
theorem d_md_entry_73 : decode b_md_entry 73 = .ok (.iload 4, 2) := by decide +kernel
theorem d_md_entry_75 : decode b_md_entry 75 = .ok (.iaload, 1) := by decide +kernel
theorem d_md_entry_76 : decode b_md_entry 76 = .ok (.istore 4, 2) := by decide +kernel
theorem d_md_entry_78 : decode b_md_entry 78 = .ok (.iinc 5 1, 3) := by decide +kernel
theorem d_md_entry_81 : decode b_md_entry 81 = .ok (.goto (-23), 3) := by decide +kernel
theorem d_md_entry_84 : decode b_md_entry 84 = .ok (.iload_n 3, 1) := by decide +kernel
theorem d_md_entry_85 : decode b_md_entry 85 = .ok (.ifCond .ne 19, 3) := by decide +kernel
theorem d_md_entry_88 : decode b_md_entry 88 = .ok (.aload_n 0, 1) := by decide +kernel
theorem d_md_entry_89 : decode b_md_entry 89 = .ok (.getfield 12, 3) := by decide +kernel
theorem d_md_entry_92 : decode b_md_entry 92 = .ok (.iload_n 1, 1) := by decide +kernel
theorem d_md_entry_93 : decode b_md_entry 93 = .ok (.aaload, 1) := by decide +kernel
theorem d_md_entry_94 : decode b_md_entry 94 = .ok (.getfield 60, 3) := by decide +kernel
theorem d_md_entry_97 : decode b_md_entry 97 = .ok (.iload 4, 2) := by decide +kernel
theorem d_md_entry_99 : decode b_md_entry 99 = .ok (.iaload, 1) := by decide +kernel
theorem d_md_entry_100 : decode b_md_entry 100 = .ok (.i2l, 1) := by decide +kernel
theorem d_md_entry_101 : decode b_md_entry 101 = .ok (.goto 16, 3) := by decide +kernel
theorem d_md_entry_104 : decode b_md_entry 104 = .ok (.aload_n 0, 1) := by decide +kernel
theorem d_md_entry_105 : decode b_md_entry 105 = .ok (.getfield 12, 3) := by decide +kernel
theorem d_md_entry_108 : decode b_md_entry 108 = .ok (.iload_n 1, 1) := by decide +kernel
theorem d_md_entry_109 : decode b_md_entry 109 = .ok (.aaload, 1) := by decide +kernel
theorem d_md_entry_110 : decode b_md_entry 110 = .ok (.getfield 36, 3) := by decide +kernel
theorem d_md_entry_113 : decode b_md_entry 113 = .ok (.iload 4, 2) := by decide +kernel
theorem d_md_entry_115 : decode b_md_entry 115 = .ok (.iaload, 1) := by decide +kernel
theorem d_md_entry_116 : decode b_md_entry 116 = .ok (.i2l, 1) := by decide +kernel
theorem d_md_entry_117 : decode b_md_entry 117 = .ok (.lreturn, 1) := by decide +kernel
theorem d_md_sum_0 : decode b_md_sum 0 = .ok (.iload_n 1, 1) := by decide +kernel
theorem d_md_sum_1 : decode b_md_sum 1 = .ok (.invokestatic 20, 3) := by decide +kernel
theorem d_md_sum_4 : decode b_md_sum 4 = .ok (.ifCond .ne 7, 3) := by decide +kernel
theorem d_md_sum_7 : decode b_md_sum 7 = .ok (.ldc2_w 24, 3) := by decide +kernel
theorem d_md_sum_10 : decode b_md_sum 10 = .ok (.lreturn, 1) := by decide +kernel
theorem d_md_sum_11 : decode b_md_sum 11 = .ok (.lconst 0, 1) := by decide +kernel
theorem d_md_sum_12 : decode b_md_sum 12 = .ok (.lstore_n 2, 1) := by decide +kernel
theorem d_md_sum_13 : decode b_md_sum 13 = .ok (.iconst 0, 1) := by decide +kernel
theorem d_md_sum_14 : decode b_md_sum 14 = .ok (.istore 4, 2) := by decide +kernel
theorem d_md_sum_16 : decode b_md_sum 16 = .ok (.iload 4, 2) := by decide +kernel
theorem d_md_sum_18 : decode b_md_sum 18 = .ok (.aload_n 0, 1) := by decide +kernel
theorem d_md_sum_19 : decode b_md_sum 19 = .ok (.getfield 12, 3) := by decide +kernel
theorem d_md_sum_22 : decode b_md_sum 22 = .ok (.iload_n 1, 1) := by decide +kernel
theorem d_md_sum_23 : decode b_md_sum 23 = .ok (.aaload, 1) := by decide +kernel
theorem d_md_sum_24 : decode b_md_sum 24 = .ok (.getfield 50, 3) := by decide +kernel
theorem d_md_sum_27 : decode b_md_sum 27 = .ok (.if_icmp .ge 63, 3) := by decide +kernel
theorem d_md_sum_30 : decode b_md_sum 30 = .ok (.lload_n 2, 1) := by decide +kernel
theorem d_md_sum_31 : decode b_md_sum 31 = .ok (.ldc2_w 73, 3) := by decide +kernel
theorem d_md_sum_34 : decode b_md_sum 34 = .ok (.aload_n 0, 1) := by decide +kernel
theorem d_md_sum_35 : decode b_md_sum 35 = .ok (.getfield 12, 3) := by decide +kernel
theorem d_md_sum_38 : decode b_md_sum 38 = .ok (.iload_n 1, 1) := by decide +kernel
theorem d_md_sum_39 : decode b_md_sum 39 = .ok (.aaload, 1) := by decide +kernel
theorem d_md_sum_40 : decode b_md_sum 40 = .ok (.getfield 60, 3) := by decide +kernel
theorem d_md_sum_43 : decode b_md_sum 43 = .ok (.aload_n 0, 1) := by decide +kernel
theorem d_md_sum_44 : decode b_md_sum 44 = .ok (.getfield 12, 3) := by decide +kernel
theorem d_md_sum_47 : decode b_md_sum 47 = .ok (.iload_n 1, 1) := by decide +kernel
theorem d_md_sum_48 : decode b_md_sum 48 = .ok (.aaload, 1) := by decide +kernel
theorem d_md_sum_49 : decode b_md_sum 49 = .ok (.getfield 54, 3) := by decide +kernel
theorem d_md_sum_52 : decode b_md_sum 52 = .ok (.iload 4, 2) := by decide +kernel
theorem d_md_sum_54 : decode b_md_sum 54 = .ok (.iaload, 1) := by decide +kernel
theorem d_md_sum_55 : decode b_md_sum 55 = .ok (.iaload, 1) := by decide +kernel
theorem d_md_sum_56 : decode b_md_sum 56 = .ok (.i2l, 1) := by decide +kernel
theorem d_md_sum_57 : decode b_md_sum 57 = .ok (.lmul, 1) := by decide +kernel
theorem d_md_sum_58 : decode b_md_sum 58 = .ok (.aload_n 0, 1) := by decide +kernel
theorem d_md_sum_59 : decode b_md_sum 59 = .ok (.getfield 12, 3) := by decide +kernel
theorem d_md_sum_62 : decode b_md_sum 62 = .ok (.iload_n 1, 1) := by decide +kernel
theorem d_md_sum_63 : decode b_md_sum 63 = .ok (.aaload, 1) := by decide +kernel
theorem d_md_sum_64 : decode b_md_sum 64 = .ok (.getfield 36, 3) := by decide +kernel
theorem d_md_sum_67 : decode b_md_sum 67 = .ok (.aload_n 0, 1) := by decide +kernel
theorem d_md_sum_68 : decode b_md_sum 68 = .ok (.getfield 12, 3) := by decide +kernel
theorem d_md_sum_71 : decode b_md_sum 71 = .ok (.iload_n 1, 1) := by decide +kernel
theorem d_md_sum_72 : decode b_md_sum 72 = .ok (.aaload, 1) := by decide +kernel
theorem d_md_sum_73 : decode b_md_sum 73 = .ok (.getfield 54, 3) := by decide +kernel
theorem d_md_sum_76 : decode b_md_sum 76 = .ok (.iload 4, 2) := by decide +kernel
theorem d_md_sum_78 : decode b_md_sum 78 = .ok (.iaload, 1) := by decide +kernel
theorem d_md_sum_79 : decode b_md_sum 79 = .ok (.iaload, 1) := by decide +kernel
theorem d_md_sum_80 : decode b_md_sum 80 = .ok (.i2l, 1) := by decide +kernel
theorem d_md_sum_81 : decode b_md_sum 81 = .ok (.ladd, 1) := by decide +kernel
theorem d_md_sum_82 : decode b_md_sum 82 = .ok (.ladd, 1) := by decide +kernel
theorem d_md_sum_83 : decode b_md_sum 83 = .ok (.lstore_n 2, 1) := by decide +kernel
theorem d_md_sum_84 : decode b_md_sum 84 = .ok (.iinc 4 1, 3) := by decide +kernel
theorem d_md_sum_87 : decode b_md_sum 87 = .ok (.goto (-71), 3) := by decide +kernel
theorem d_md_sum_90 : decode b_md_sum 90 = .ok (.lload_n 2, 1) := by decide +kernel
theorem d_md_sum_91 : decode b_md_sum 91 = .ok (.lreturn, 1) := by decide +kernel
theorem d_md_sweep_0 : decode b_md_sweep 0 = .ok (.iload_n 1, 1) := by decide +kernel
theorem d_md_sweep_1 : decode b_md_sweep 1 = .ok (.invokestatic 20, 3) := by decide +kernel
theorem d_md_sweep_4 : decode b_md_sweep 4 = .ok (.ifCond .eq 8, 3) := by decide +kernel
theorem d_md_sweep_7 : decode b_md_sweep 7 = .ok (.iload_n 2, 1) := by decide +kernel
theorem d_md_sweep_8 : decode b_md_sweep 8 = .ok (.iconst 1, 1) := by decide +kernel
theorem d_md_sweep_9 : decode b_md_sweep 9 = .ok (.if_icmp .ge 5, 3) := by decide +kernel
theorem d_md_sweep_12 : decode b_md_sweep 12 = .ok (.iconst (-1), 1) := by decide +kernel
theorem d_md_sweep_13 : decode b_md_sweep 13 = .ok (.ireturn, 1) := by decide +kernel
theorem d_md_sweep_14 : decode b_md_sweep 14 = .ok (.iconst 0, 1) := by decide +kernel
theorem d_md_sweep_15 : decode b_md_sweep 15 = .ok (.istore 4, 2) := by decide +kernel
theorem d_md_sweep_17 : decode b_md_sweep 17 = .ok (.aload_n 0, 1) := by decide +kernel
theorem d_md_sweep_18 : decode b_md_sweep 18 = .ok (.getfield 12, 3) := by decide +kernel
theorem d_md_sweep_21 : decode b_md_sweep 21 = .ok (.iload_n 1, 1) := by decide +kernel
theorem d_md_sweep_22 : decode b_md_sweep 22 = .ok (.aaload, 1) := by decide +kernel
theorem d_md_sweep_23 : decode b_md_sweep 23 = .ok (.getfield 50, 3) := by decide +kernel
theorem d_md_sweep_26 : decode b_md_sweep 26 = .ok (.iconst 1, 1) := by decide +kernel
theorem d_md_sweep_27 : decode b_md_sweep 27 = .ok (.isub, 1) := by decide +kernel
theorem d_md_sweep_28 : decode b_md_sweep 28 = .ok (.istore 5, 2) := by decide +kernel
theorem d_md_sweep_30 : decode b_md_sweep 30 = .ok (.iload 5, 2) := by decide +kernel
theorem d_md_sweep_32 : decode b_md_sweep 32 = .ok (.ifCond .lt 60, 3) := by decide +kernel
theorem d_md_sweep_35 : decode b_md_sweep 35 = .ok (.aload_n 0, 1) := by decide +kernel
theorem d_md_sweep_36 : decode b_md_sweep 36 = .ok (.getfield 12, 3) := by decide +kernel
theorem d_md_sweep_39 : decode b_md_sweep 39 = .ok (.iload_n 1, 1) := by decide +kernel
theorem d_md_sweep_40 : decode b_md_sweep 40 = .ok (.aaload, 1) := by decide +kernel
theorem d_md_sweep_41 : decode b_md_sweep 41 = .ok (.getfield 54, 3) := by decide +kernel
theorem d_md_sweep_44 : decode b_md_sweep 44 = .ok (.iload 5, 2) := by decide +kernel
theorem d_md_sweep_46 : decode b_md_sweep 46 = .ok (.iaload, 1) := by decide +kernel
theorem d_md_sweep_47 : decode b_md_sweep 47 = .ok (.istore 6, 2) := by decide +kernel
theorem d_md_sweep_49 : decode b_md_sweep 49 = .ok (.aload_n 0, 1) := by decide +kernel
theorem d_md_sweep_50 : decode b_md_sweep 50 = .ok (.getfield 12, 3) := by decide +kernel
theorem d_md_sweep_53 : decode b_md_sweep 53 = .ok (.iload_n 1, 1) := by decide +kernel
theorem d_md_sweep_54 : decode b_md_sweep 54 = .ok (.aaload, 1) := by decide +kernel
theorem d_md_sweep_55 : decode b_md_sweep 55 = .ok (.getfield 60, 3) := by decide +kernel
theorem d_md_sweep_58 : decode b_md_sweep 58 = .ok (.iload 6, 2) := by decide +kernel
theorem d_md_sweep_60 : decode b_md_sweep 60 = .ok (.iaload, 1) := by decide +kernel
theorem d_md_sweep_61 : decode b_md_sweep 61 = .ok (.iload_n 2, 1) := by decide +kernel
theorem d_md_sweep_62 : decode b_md_sweep 62 = .ok (.invokestatic 75, 3) := by decide +kernel
theorem d_md_sweep_65 : decode b_md_sweep 65 = .ok (.iload_n 3, 1) := by decide +kernel
theorem d_md_sweep_66 : decode b_md_sweep 66 = .ok (.if_icmp .eq 6, 3) := by decide +kernel
theorem d_md_sweep_69 : decode b_md_sweep 69 = .ok (.goto 17, 3) := by decide +kernel
theorem d_md_sweep_72 : decode b_md_sweep 72 = .ok (.aload_n 0, 1) := by decide +kernel
theorem d_md_sweep_73 : decode b_md_sweep 73 = .ok (.getfield 12, 3) := by decide +kernel
theorem d_md_sweep_76 : decode b_md_sweep 76 = .ok (.iload_n 1, 1) := by decide +kernel
theorem d_md_sweep_77 : decode b_md_sweep 77 = .ok (.aaload, 1) := by decide +kernel
theorem d_md_sweep_78 : decode b_md_sweep 78 = .ok (.iload 6, 2) := by decide +kernel
theorem d_md_sweep_80 : decode b_md_sweep 80 = .ok (.invokevirtual 47, 3) := by decide +kernel
theorem d_md_sweep_83 : decode b_md_sweep 83 = .ok (.iinc 4 1, 3) := by decide +kernel
theorem d_md_sweep_86 : decode b_md_sweep 86 = .ok (.iinc 5 (-1), 3) := by decide +kernel
theorem d_md_sweep_89 : decode b_md_sweep 89 = .ok (.goto (-59), 3) := by decide +kernel
theorem d_md_sweep_92 : decode b_md_sweep 92 = .ok (.iload 4, 2) := by decide +kernel
theorem d_md_sweep_94 : decode b_md_sweep 94 = .ok (.ireturn, 1) := by decide +kernel
theorem d_md_raise_0 : decode b_md_raise 0 = .ok (.iload_n 1, 1) := by decide +kernel
theorem d_md_raise_1 : decode b_md_raise 1 = .ok (.invokestatic 20, 3) := by decide +kernel
theorem d_md_raise_4 : decode b_md_raise 4 = .ok (.ifCond .ne 5, 3) := by decide +kernel
theorem d_md_raise_7 : decode b_md_raise 7 = .ok (.iconst (-1), 1) := by decide +kernel
theorem d_md_raise_8 : decode b_md_raise 8 = .ok (.ireturn, 1) := by decide +kernel
theorem d_md_raise_9 : decode b_md_raise 9 = .ok (.iconst 0, 1) := by decide +kernel
theorem d_md_raise_10 : decode b_md_raise 10 = .ok (.istore_n 3, 1) := by decide +kernel
theorem d_md_raise_11 : decode b_md_raise 11 = .ok (.iload_n 3, 1) := by decide +kernel
theorem d_md_raise_12 : decode b_md_raise 12 = .ok (.aload_n 0, 1) := by decide +kernel
theorem d_md_raise_13 : decode b_md_raise 13 = .ok (.getfield 12, 3) := by decide +kernel
theorem d_md_raise_16 : decode b_md_raise 16 = .ok (.iload_n 1, 1) := by decide +kernel
theorem d_md_raise_17 : decode b_md_raise 17 = .ok (.aaload, 1) := by decide +kernel
theorem d_md_raise_18 : decode b_md_raise 18 = .ok (.getfield 50, 3) := by decide +kernel
theorem d_md_raise_21 : decode b_md_raise 21 = .ok (.if_icmp .ge 34, 3) := by decide +kernel
theorem d_md_raise_24 : decode b_md_raise 24 = .ok (.aload_n 0, 1) := by decide +kernel
theorem d_md_raise_25 : decode b_md_raise 25 = .ok (.getfield 12, 3) := by decide +kernel
theorem d_md_raise_28 : decode b_md_raise 28 = .ok (.iload_n 1, 1) := by decide +kernel
theorem d_md_raise_29 : decode b_md_raise 29 = .ok (.aaload, 1) := by decide +kernel
theorem d_md_raise_30 : decode b_md_raise 30 = .ok (.getfield 36, 3) := by decide +kernel
theorem d_md_raise_33 : decode b_md_raise 33 = .ok (.aload_n 0, 1) := by decide +kernel
theorem d_md_raise_34 : decode b_md_raise 34 = .ok (.getfield 12, 3) := by decide +kernel
theorem d_md_raise_37 : decode b_md_raise 37 = .ok (.iload_n 1, 1) := by decide +kernel
theorem d_md_raise_38 : decode b_md_raise 38 = .ok (.aaload, 1) := by decide +kernel
theorem d_md_raise_39 : decode b_md_raise 39 = .ok (.getfield 54, 3) := by decide +kernel
theorem d_md_raise_42 : decode b_md_raise 42 = .ok (.iload_n 3, 1) := by decide +kernel
theorem d_md_raise_43 : decode b_md_raise 43 = .ok (.iaload, 1) := by decide +kernel
theorem d_md_raise_44 : decode b_md_raise 44 = .ok (.dup2, 1) := by decide +kernel
theorem d_md_raise_45 : decode b_md_raise 45 = .ok (.iaload, 1) := by decide +kernel
theorem d_md_raise_46 : decode b_md_raise 46 = .ok (.iload_n 2, 1) := by decide +kernel
theorem d_md_raise_47 : decode b_md_raise 47 = .ok (.iadd, 1) := by decide +kernel
theorem d_md_raise_48 : decode b_md_raise 48 = .ok (.iastore, 1) := by decide +kernel
theorem d_md_raise_49 : decode b_md_raise 49 = .ok (.iinc 3 1, 3) := by decide +kernel
theorem d_md_raise_52 : decode b_md_raise 52 = .ok (.goto (-41), 3) := by decide +kernel
theorem d_md_raise_55 : decode b_md_raise 55 = .ok (.aload_n 0, 1) := by decide +kernel
theorem d_md_raise_56 : decode b_md_raise 56 = .ok (.getfield 12, 3) := by decide +kernel
theorem d_md_raise_59 : decode b_md_raise 59 = .ok (.iload_n 1, 1) := by decide +kernel
theorem d_md_raise_60 : decode b_md_raise 60 = .ok (.aaload, 1) := by decide +kernel
theorem d_md_raise_61 : decode b_md_raise 61 = .ok (.getfield 50, 3) := by decide +kernel
theorem d_md_raise_64 : decode b_md_raise 64 = .ok (.ireturn, 1) := by decide +kernel
theorem d_md_same_0 : decode b_md_same 0 = .ok (.iload_n 1, 1) := by decide +kernel
theorem d_md_same_1 : decode b_md_same 1 = .ok (.invokestatic 20, 3) := by decide +kernel
theorem d_md_same_4 : decode b_md_same 4 = .ok (.ifCond .eq 31, 3) := by decide +kernel
theorem d_md_same_7 : decode b_md_same 7 = .ok (.iload_n 2, 1) := by decide +kernel
theorem d_md_same_8 : decode b_md_same 8 = .ok (.invokestatic 20, 3) := by decide +kernel
theorem d_md_same_11 : decode b_md_same 11 = .ok (.ifCond .eq 24, 3) := by decide +kernel
theorem d_md_same_14 : decode b_md_same 14 = .ok (.aload_n 0, 1) := by decide +kernel
theorem d_md_same_15 : decode b_md_same 15 = .ok (.getfield 12, 3) := by decide +kernel
theorem d_md_same_18 : decode b_md_same 18 = .ok (.iload_n 1, 1) := by decide +kernel
theorem d_md_same_19 : decode b_md_same 19 = .ok (.aaload, 1) := by decide +kernel
theorem d_md_same_20 : decode b_md_same 20 = .ok (.getfield 50, 3) := by decide +kernel
theorem d_md_same_23 : decode b_md_same 23 = .ok (.aload_n 0, 1) := by decide +kernel
theorem d_md_same_24 : decode b_md_same 24 = .ok (.getfield 12, 3) := by decide +kernel
theorem d_md_same_27 : decode b_md_same 27 = .ok (.iload_n 2, 1) := by decide +kernel
theorem d_md_same_28 : decode b_md_same 28 = .ok (.aaload, 1) := by decide +kernel
theorem d_md_same_29 : decode b_md_same 29 = .ok (.getfield 50, 3) := by decide +kernel
theorem d_md_same_32 : decode b_md_same 32 = .ok (.if_icmp .eq 5, 3) := by decide +kernel
theorem d_md_same_35 : decode b_md_same 35 = .ok (.iconst 0, 1) := by decide +kernel
theorem d_md_same_36 : decode b_md_same 36 = .ok (.ireturn, 1) := by decide +kernel
theorem d_md_same_37 : decode b_md_same 37 = .ok (.iconst 0, 1) := by decide +kernel
theorem d_md_same_38 : decode b_md_same 38 = .ok (.istore_n 3, 1) := by decide +kernel
theorem d_md_same_39 : decode b_md_same 39 = .ok (.iload_n 3, 1) := by decide +kernel
theorem d_md_same_40 : decode b_md_same 40 = .ok (.aload_n 0, 1) := by decide +kernel
theorem d_md_same_41 : decode b_md_same 41 = .ok (.getfield 12, 3) := by decide +kernel
theorem d_md_same_44 : decode b_md_same 44 = .ok (.iload_n 1, 1) := by decide +kernel
theorem d_md_same_45 : decode b_md_same 45 = .ok (.aaload, 1) := by decide +kernel
theorem d_md_same_46 : decode b_md_same 46 = .ok (.getfield 50, 3) := by decide +kernel
theorem d_md_same_49 : decode b_md_same 49 = .ok (.if_icmp .ge 91, 3) := by decide +kernel
theorem d_md_same_52 : decode b_md_same 52 = .ok (.aload_n 0, 1) := by decide +kernel
theorem d_md_same_53 : decode b_md_same 53 = .ok (.getfield 12, 3) := by decide +kernel
theorem d_md_same_56 : decode b_md_same 56 = .ok (.iload_n 1, 1) := by decide +kernel
theorem d_md_same_57 : decode b_md_same 57 = .ok (.aaload, 1) := by decide +kernel
theorem d_md_same_58 : decode b_md_same 58 = .ok (.getfield 54, 3) := by decide +kernel
theorem d_md_same_61 : decode b_md_same 61 = .ok (.iload_n 3, 1) := by decide +kernel
theorem d_md_same_62 : decode b_md_same 62 = .ok (.iaload, 1) := by decide +kernel
theorem d_md_same_63 : decode b_md_same 63 = .ok (.istore 4, 2) := by decide +kernel
theorem d_md_same_65 : decode b_md_same 65 = .ok (.aload_n 0, 1) := by decide +kernel
theorem d_md_same_66 : decode b_md_same 66 = .ok (.getfield 12, 3) := by decide +kernel
theorem d_md_same_69 : decode b_md_same 69 = .ok (.iload_n 2, 1) := by decide +kernel
theorem d_md_same_70 : decode b_md_same 70 = .ok (.aaload, 1) := by decide +kernel
theorem d_md_same_71 : decode b_md_same 71 = .ok (.getfield 54, 3) := by decide +kernel
theorem d_md_same_74 : decode b_md_same 74 = .ok (.iload_n 3, 1) := by decide +kernel
theorem d_md_same_75 : decode b_md_same 75 = .ok (.iaload, 1) := by decide +kernel
theorem d_md_same_76 : decode b_md_same 76 = .ok (.istore 5, 2) := by decide +kernel
theorem d_md_same_78 : decode b_md_same 78 = .ok (.aload_n 0, 1) := by decide +kernel
theorem d_md_same_79 : decode b_md_same 79 = .ok (.getfield 12, 3) := by decide +kernel
theorem d_md_same_82 : decode b_md_same 82 = .ok (.iload_n 1, 1) := by decide +kernel
theorem d_md_same_83 : decode b_md_same 83 = .ok (.aaload, 1) := by decide +kernel
theorem d_md_same_84 : decode b_md_same 84 = .ok (.getfield 60, 3) := by decide +kernel
theorem d_md_same_87 : decode b_md_same 87 = .ok (.iload 4, 2) := by decide +kernel
theorem d_md_same_89 : decode b_md_same 89 = .ok (.iaload, 1) := by decide +kernel
theorem d_md_same_90 : decode b_md_same 90 = .ok (.aload_n 0, 1) := by decide +kernel
theorem d_md_same_91 : decode b_md_same 91 = .ok (.getfield 12, 3) := by decide +kernel
theorem d_md_same_94 : decode b_md_same 94 = .ok (.iload_n 2, 1) := by decide +kernel
theorem d_md_same_95 : decode b_md_same 95 = .ok (.aaload, 1) := by decide +kernel
theorem d_md_same_96 : decode b_md_same 96 = .ok (.getfield 60, 3) := by decide +kernel
theorem d_md_same_99 : decode b_md_same 99 = .ok (.iload 5, 2) := by decide +kernel
theorem d_md_same_101 : decode b_md_same 101 = .ok (.iaload, 1) := by decide +kernel
theorem d_md_same_102 : decode b_md_same 102 = .ok (.if_icmp .ne 30, 3) := by decide +kernel
theorem d_md_same_105 : decode b_md_same 105 = .ok (.aload_n 0, 1) := by decide +kernel
theorem d_md_same_106 : decode b_md_same 106 = .ok (.getfield 12, 3) := by decide +kernel
theorem d_md_same_109 : decode b_md_same 109 = .ok (.iload_n 1, 1) := by decide +kernel
theorem d_md_same_110 : decode b_md_same 110 = .ok (.aaload, 1) := by decide +kernel
theorem d_md_same_111 : decode b_md_same 111 = .ok (.getfield 36, 3) := by decide +kernel
theorem d_md_same_114 : decode b_md_same 114 = .ok (.iload 4, 2) := by decide +kernel
theorem d_md_same_116 : decode b_md_same 116 = .ok (.iaload, 1) := by decide +kernel
theorem d_md_same_117 : decode b_md_same 117 = .ok (.aload_n 0, 1) := by decide +kernel
theorem d_md_same_118 : decode b_md_same 118 = .ok (.getfield 12, 3) := by decide +kernel
theorem d_md_same_121 : decode b_md_same 121 = .ok (.iload_n 2, 1) := by decide +kernel
theorem d_md_same_122 : decode b_md_same 122 = .ok (.aaload, 1) := by decide +kernel
theorem d_md_same_123 : decode b_md_same 123 = .ok (.getfield 36, 3) := by decide +kernel
theorem d_md_same_126 : decode b_md_same 126 = .ok (.iload 5, 2) := by decide +kernel
theorem d_md_same_128 : decode b_md_same 128 = .ok (.iaload, 1) := by decide +kernel
theorem d_md_same_129 : decode b_md_same 129 = .ok (.if_icmp .eq 5, 3) := by decide +kernel
theorem d_md_same_132 : decode b_md_same 132 = .ok (.iconst 0, 1) := by decide +kernel
theorem d_md_same_133 : decode b_md_same 133 = .ok (.ireturn, 1) := by decide +kernel
theorem d_md_same_134 : decode b_md_same 134 = .ok (.iinc 3 1, 3) := by decide +kernel
theorem d_md_same_137 : decode b_md_same 137 = .ok (.goto (-98), 3) := by decide +kernel
theorem d_md_same_140 : decode b_md_same 140 = .ok (.iconst 1, 1) := by decide +kernel
theorem d_md_same_141 : decode b_md_same 141 = .ok (.ireturn, 1) := by decide +kernel
theorem d_md_fill_0 : decode b_md_fill 0 = .ok (.iload_n 1, 1) := by decide +kernel
theorem d_md_fill_1 : decode b_md_fill 1 = .ok (.invokestatic 20, 3) := by decide +kernel
theorem d_md_fill_4 : decode b_md_fill 4 = .ok (.ifCond .eq 32, 3) := by decide +kernel
theorem d_md_fill_7 : decode b_md_fill 7 = .ok (.iload 4, 2) := by decide +kernel
theorem d_md_fill_9 : decode b_md_fill 9 = .ok (.iconst 1, 1) := by decide +kernel
theorem d_md_fill_10 : decode b_md_fill 10 = .ok (.if_icmp .lt 26, 3) := by decide +kernel
theorem d_md_fill_13 : decode b_md_fill 13 = .ok (.iload 4, 2) := by decide +kernel
theorem d_md_fill_15 : decode b_md_fill 15 = .ok (.sipush 400, 3) := by decide +kernel
theorem d_md_fill_18 : decode b_md_fill 18 = .ok (.if_icmp .gt 18, 3) := by decide +kernel
theorem d_md_fill_21 : decode b_md_fill 21 = .ok (.aload_n 0, 1) := by decide +kernel
theorem d_md_fill_22 : decode b_md_fill 22 = .ok (.getfield 12, 3) := by decide +kernel
theorem d_md_fill_25 : decode b_md_fill 25 = .ok (.iload_n 1, 1) := by decide +kernel
theorem d_md_fill_26 : decode b_md_fill 26 = .ok (.aaload, 1) := by decide +kernel
theorem d_md_fill_27 : decode b_md_fill 27 = .ok (.getfield 50, 3) := by decide +kernel
theorem d_md_fill_30 : decode b_md_fill 30 = .ok (.sipush 1000, 3) := by decide +kernel
theorem d_md_fill_33 : decode b_md_fill 33 = .ok (.if_icmp .le 5, 3) := by decide +kernel
theorem d_md_fill_36 : decode b_md_fill 36 = .ok (.iconst (-1), 1) := by decide +kernel
theorem d_md_fill_37 : decode b_md_fill 37 = .ok (.ireturn, 1) := by decide +kernel
theorem d_md_fill_38 : decode b_md_fill 38 = .ok (.iconst 0, 1) := by decide +kernel
theorem d_md_fill_39 : decode b_md_fill 39 = .ok (.istore 5, 2) := by decide +kernel
theorem d_md_fill_41 : decode b_md_fill 41 = .ok (.iload 5, 2) := by decide +kernel
theorem d_md_fill_43 : decode b_md_fill 43 = .ok (.iload 4, 2) := by decide +kernel
theorem d_md_fill_45 : decode b_md_fill 45 = .ok (.if_icmp .ge 23, 3) := by decide +kernel
theorem d_md_fill_48 : decode b_md_fill 48 = .ok (.aload_n 0, 1) := by decide +kernel
theorem d_md_fill_49 : decode b_md_fill 49 = .ok (.iload_n 1, 1) := by decide +kernel
theorem d_md_fill_50 : decode b_md_fill 50 = .ok (.iload_n 2, 1) := by decide +kernel
theorem d_md_fill_51 : decode b_md_fill 51 = .ok (.iload 5, 2) := by decide +kernel
theorem d_md_fill_53 : decode b_md_fill 53 = .ok (.iload_n 3, 1) := by decide +kernel
theorem d_md_fill_54 : decode b_md_fill 54 = .ok (.imul, 1) := by decide +kernel
theorem d_md_fill_55 : decode b_md_fill 55 = .ok (.iadd, 1) := by decide +kernel
theorem d_md_fill_56 : decode b_md_fill 56 = .ok (.iload 5, 2) := by decide +kernel
theorem d_md_fill_58 : decode b_md_fill 58 = .ok (.invokevirtual 66, 3) := by decide +kernel
theorem d_md_fill_61 : decode b_md_fill 61 = .ok (.pop2, 1) := by decide +kernel
theorem d_md_fill_62 : decode b_md_fill 62 = .ok (.iinc 5 1, 3) := by decide +kernel
theorem d_md_fill_65 : decode b_md_fill 65 = .ok (.goto (-24), 3) := by decide +kernel
theorem d_md_fill_68 : decode b_md_fill 68 = .ok (.aload_n 0, 1) := by decide +kernel
theorem d_md_fill_69 : decode b_md_fill 69 = .ok (.getfield 12, 3) := by decide +kernel
theorem d_md_fill_72 : decode b_md_fill 72 = .ok (.iload_n 1, 1) := by decide +kernel
theorem d_md_fill_73 : decode b_md_fill 73 = .ok (.aaload, 1) := by decide +kernel
theorem d_md_fill_74 : decode b_md_fill 74 = .ok (.getfield 50, 3) := by decide +kernel
theorem d_md_fill_77 : decode b_md_fill 77 = .ok (.ireturn, 1) := by decide +kernel
