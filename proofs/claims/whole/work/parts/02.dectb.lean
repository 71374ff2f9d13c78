theorem d_tb_init_0 : decode b_tb_init 0 = .ok (.aload_n 0, 1) := by decide +kernel
theorem d_tb_init_1 : decode b_tb_init 1 = .ok (.invokespecial 3, 3) := by decide +kernel
theorem d_tb_init_4 : decode b_tb_init 4 = .ok (.aload_n 0, 1) := by decide +kernel
theorem d_tb_init_5 : decode b_tb_init 5 = .ok (.iload_n 1, 1) := by decide +kernel
theorem d_tb_init_6 : decode b_tb_init 6 = .ok (.putfield 9, 3) := by decide +kernel
theorem d_tb_init_9 : decode b_tb_init 9 = .ok (.aload_n 0, 1) := by decide +kernel
theorem d_tb_init_10 : decode b_tb_init 10 = .ok (.bipush 16, 2) := by decide +kernel
theorem d_tb_init_12 : decode b_tb_init 12 = .ok (.newarray .int, 2) := by decide +kernel
theorem d_tb_init_14 : decode b_tb_init 14 = .ok (.putfield 15, 3) := by decide +kernel
theorem d_tb_init_17 : decode b_tb_init 17 = .ok (.aload_n 0, 1) := by decide +kernel
theorem d_tb_init_18 : decode b_tb_init 18 = .ok (.bipush 16, 2) := by decide +kernel
theorem d_tb_init_20 : decode b_tb_init 20 = .ok (.newarray .int, 2) := by decide +kernel
theorem d_tb_init_22 : decode b_tb_init 22 = .ok (.putfield 19, 3) := by decide +kernel
theorem d_tb_init_25 : decode b_tb_init 25 = .ok (.aload_n 0, 1) := by decide +kernel
theorem d_tb_init_26 : decode b_tb_init 26 = .ok (.bipush 16, 2) := by decide +kernel
theorem d_tb_init_28 : decode b_tb_init 28 = .ok (.newarray .int, 2) := by decide +kernel
theorem d_tb_init_30 : decode b_tb_init 30 = .ok (.putfield 22, 3) := by decide +kernel
theorem d_tb_init_33 : decode b_tb_init 33 = .ok (.aload_n 0, 1) := by decide +kernel
theorem d_tb_init_34 : decode b_tb_init 34 = .ok (.bipush 16, 2) := by decide +kernel
theorem d_tb_init_36 : decode b_tb_init 36 = .ok (.newarray .int, 2) := by decide +kernel
theorem d_tb_init_38 : decode b_tb_init 38 = .ok (.putfield 25, 3) := by decide +kernel
theorem d_tb_init_41 : decode b_tb_init 41 = .ok (.aload_n 0, 1) := by decide +kernel
theorem d_tb_init_42 : decode b_tb_init 42 = .ok (.bipush 16, 2) := by decide +kernel
theorem d_tb_init_44 : decode b_tb_init 44 = .ok (.newarray .int, 2) := by decide +kernel
theorem d_tb_init_46 : decode b_tb_init 46 = .ok (.putfield 28, 3) := by decide +kernel
theorem d_tb_init_49 : decode b_tb_init 49 = .ok (.aload_n 0, 1) := by decide +kernel
theorem d_tb_init_50 : decode b_tb_init 50 = .ok (.bipush 16, 2) := by decide +kernel
theorem d_tb_init_52 : decode b_tb_init 52 = .ok (.newarray .int, 2) := by decide +kernel
theorem d_tb_init_54 : decode b_tb_init 54 = .ok (.putfield 31, 3) := by decide +kernel
theorem d_tb_init_57 : decode b_tb_init 57 = .ok (.return_, 1) := by decide +kernel
theorem d_tb_store_0 : decode b_tb_store 0 = .ok (.aload_n 0, 1) := by decide +kernel
theorem d_tb_store_1 : decode b_tb_store 1 = .ok (.iload_n 1, 1) := by decide +kernel
theorem d_tb_store_2 : decode b_tb_store 2 = .ok (.invokevirtual 34, 3) := by decide +kernel
theorem d_tb_store_5 : decode b_tb_store 5 = .ok (.istore_n 3, 1) := by decide +kernel
theorem d_tb_store_6 : decode b_tb_store 6 = .ok (.iload_n 3, 1) := by decide +kernel
theorem d_tb_store_7 : decode b_tb_store 7 = .ok (.ifCond .ne 13, 3) := by decide +kernel
theorem d_tb_store_10 : decode b_tb_store 10 = .ok (.aload_n 0, 1) := by decide +kernel
theorem d_tb_store_11 : decode b_tb_store 11 = .ok (.iload_n 1, 1) := by decide +kernel
theorem d_tb_store_12 : decode b_tb_store 12 = .ok (.iload_n 2, 1) := by decide +kernel
theorem d_tb_store_13 : decode b_tb_store 13 = .ok (.invokevirtual 38, 3) := by decide +kernel
theorem d_tb_store_16 : decode b_tb_store 16 = .ok (.ldc2_w 42, 3) := by decide +kernel
theorem d_tb_store_19 : decode b_tb_store 19 = .ok (.lreturn, 1) := by decide +kernel
theorem d_tb_store_20 : decode b_tb_store 20 = .ok (.aload_n 0, 1) := by decide +kernel
theorem d_tb_store_21 : decode b_tb_store 21 = .ok (.getfield 19, 3) := by decide +kernel
theorem d_tb_store_24 : decode b_tb_store 24 = .ok (.iload_n 3, 1) := by decide +kernel
theorem d_tb_store_25 : decode b_tb_store 25 = .ok (.iaload, 1) := by decide +kernel
theorem d_tb_store_26 : decode b_tb_store 26 = .ok (.i2l, 1) := by decide +kernel
theorem d_tb_store_27 : decode b_tb_store 27 = .ok (.lstore 4, 2) := by decide +kernel
theorem d_tb_store_29 : decode b_tb_store 29 = .ok (.aload_n 0, 1) := by decide +kernel
theorem d_tb_store_30 : decode b_tb_store 30 = .ok (.getfield 19, 3) := by decide +kernel
theorem d_tb_store_33 : decode b_tb_store 33 = .ok (.iload_n 3, 1) := by decide +kernel
theorem d_tb_store_34 : decode b_tb_store 34 = .ok (.iload_n 2, 1) := by decide +kernel
theorem d_tb_store_35 : decode b_tb_store 35 = .ok (.iastore, 1) := by decide +kernel
theorem d_tb_store_36 : decode b_tb_store 36 = .ok (.aload_n 0, 1) := by decide +kernel
theorem d_tb_store_37 : decode b_tb_store 37 = .ok (.iload_n 3, 1) := by decide +kernel
theorem d_tb_store_38 : decode b_tb_store 38 = .ok (.invokevirtual 44, 3) := by decide +kernel
theorem d_tb_store_41 : decode b_tb_store 41 = .ok (.lload 4, 2) := by decide +kernel
theorem d_tb_store_43 : decode b_tb_store 43 = .ok (.lreturn, 1) := by decide +kernel
theorem d_tb_slotOf_0 : decode b_tb_slotOf 0 = .ok (.aload_n 0, 1) := by decide +kernel
theorem d_tb_slotOf_1 : decode b_tb_slotOf 1 = .ok (.getfield 28, 3) := by decide +kernel
theorem d_tb_slotOf_4 : decode b_tb_slotOf 4 = .ok (.aload_n 0, 1) := by decide +kernel
theorem d_tb_slotOf_5 : decode b_tb_slotOf 5 = .ok (.iload_n 1, 1) := by decide +kernel
theorem d_tb_slotOf_6 : decode b_tb_slotOf 6 = .ok (.invokevirtual 87, 3) := by decide +kernel
theorem d_tb_slotOf_9 : decode b_tb_slotOf 9 = .ok (.iaload, 1) := by decide +kernel
theorem d_tb_slotOf_10 : decode b_tb_slotOf 10 = .ok (.istore_n 2, 1) := by decide +kernel
theorem d_tb_slotOf_11 : decode b_tb_slotOf 11 = .ok (.iconst 0, 1) := by decide +kernel
theorem d_tb_slotOf_12 : decode b_tb_slotOf 12 = .ok (.istore_n 3, 1) := by decide +kernel
theorem d_tb_slotOf_13 : decode b_tb_slotOf 13 = .ok (.iload_n 3, 1) := by decide +kernel
theorem d_tb_slotOf_14 : decode b_tb_slotOf 14 = .ok (.aload_n 0, 1) := by decide +kernel
theorem d_tb_slotOf_15 : decode b_tb_slotOf 15 = .ok (.getfield 52, 3) := by decide +kernel
theorem d_tb_slotOf_18 : decode b_tb_slotOf 18 = .ok (.if_icmp .ge 32, 3) := by decide +kernel
theorem d_tb_slotOf_21 : decode b_tb_slotOf 21 = .ok (.iload_n 2, 1) := by decide +kernel
theorem d_tb_slotOf_22 : decode b_tb_slotOf 22 = .ok (.ifCond .eq 28, 3) := by decide +kernel
theorem d_tb_slotOf_25 : decode b_tb_slotOf 25 = .ok (.aload_n 0, 1) := by decide +kernel
theorem d_tb_slotOf_26 : decode b_tb_slotOf 26 = .ok (.getfield 15, 3) := by decide +kernel
theorem d_tb_slotOf_29 : decode b_tb_slotOf 29 = .ok (.iload_n 2, 1) := by decide +kernel
theorem d_tb_slotOf_30 : decode b_tb_slotOf 30 = .ok (.iaload, 1) := by decide +kernel
theorem d_tb_slotOf_31 : decode b_tb_slotOf 31 = .ok (.iload_n 1, 1) := by decide +kernel
theorem d_tb_slotOf_32 : decode b_tb_slotOf 32 = .ok (.if_icmp .ne 5, 3) := by decide +kernel
theorem d_tb_slotOf_35 : decode b_tb_slotOf 35 = .ok (.iload_n 2, 1) := by decide +kernel
theorem d_tb_slotOf_36 : decode b_tb_slotOf 36 = .ok (.ireturn, 1) := by decide +kernel
theorem d_tb_slotOf_37 : decode b_tb_slotOf 37 = .ok (.aload_n 0, 1) := by decide +kernel
theorem d_tb_slotOf_38 : decode b_tb_slotOf 38 = .ok (.getfield 31, 3) := by decide +kernel
theorem d_tb_slotOf_41 : decode b_tb_slotOf 41 = .ok (.iload_n 2, 1) := by decide +kernel
theorem d_tb_slotOf_42 : decode b_tb_slotOf 42 = .ok (.iaload, 1) := by decide +kernel
theorem d_tb_slotOf_43 : decode b_tb_slotOf 43 = .ok (.istore_n 2, 1) := by decide +kernel
theorem d_tb_slotOf_44 : decode b_tb_slotOf 44 = .ok (.iinc 3 1, 3) := by decide +kernel
theorem d_tb_slotOf_47 : decode b_tb_slotOf 47 = .ok (.goto (-34), 3) := by decide +kernel
theorem d_tb_slotOf_50 : decode b_tb_slotOf 50 = .ok (.iconst 0, 1) := by decide +kernel
theorem d_tb_slotOf_51 : decode b_tb_slotOf 51 = .ok (.ireturn, 1) := by decide +kernel
theorem d_tb_headOf_0 : decode b_tb_headOf 0 = .ok (.iload_n 1, 1) := by decide +kernel
theorem d_tb_headOf_1 : decode b_tb_headOf 1 = .ok (.iload_n 1, 1) := by decide +kernel
theorem d_tb_headOf_2 : decode b_tb_headOf 2 = .ok (.bipush 16, 2) := by decide +kernel
theorem d_tb_headOf_4 : decode b_tb_headOf 4 = .ok (.iushr, 1) := by decide +kernel
theorem d_tb_headOf_5 : decode b_tb_headOf 5 = .ok (.ixor, 1) := by decide +kernel
theorem d_tb_headOf_6 : decode b_tb_headOf 6 = .ok (.ldc 90, 2) := by decide +kernel
theorem d_tb_headOf_8 : decode b_tb_headOf 8 = .ok (.imul, 1) := by decide +kernel
theorem d_tb_headOf_9 : decode b_tb_headOf 9 = .ok (.istore_n 2, 1) := by decide +kernel
theorem d_tb_headOf_10 : decode b_tb_headOf 10 = .ok (.iload_n 2, 1) := by decide +kernel
theorem d_tb_headOf_11 : decode b_tb_headOf 11 = .ok (.iload_n 2, 1) := by decide +kernel
theorem d_tb_headOf_12 : decode b_tb_headOf 12 = .ok (.bipush 16, 2) := by decide +kernel
theorem d_tb_headOf_14 : decode b_tb_headOf 14 = .ok (.iushr, 1) := by decide +kernel
theorem d_tb_headOf_15 : decode b_tb_headOf 15 = .ok (.ixor, 1) := by decide +kernel
theorem d_tb_headOf_16 : decode b_tb_headOf 16 = .ok (.aload_n 0, 1) := by decide +kernel
theorem d_tb_headOf_17 : decode b_tb_headOf 17 = .ok (.getfield 28, 3) := by decide +kernel
theorem d_tb_headOf_20 : decode b_tb_headOf 20 = .ok (.arraylength, 1) := by decide +kernel
theorem d_tb_headOf_21 : decode b_tb_headOf 21 = .ok (.iconst 1, 1) := by decide +kernel
theorem d_tb_headOf_22 : decode b_tb_headOf 22 = .ok (.isub, 1) := by decide +kernel
theorem d_tb_headOf_23 : decode b_tb_headOf 23 = .ok (.iand, 1) := by decide +kernel
theorem d_tb_headOf_24 : decode b_tb_headOf 24 = .ok (.ireturn, 1) := by decide +kernel
theorem d_tb_insert_0 : decode b_tb_insert 0 = .ok (.aload_n 0, 1) := by decide +kernel
theorem d_tb_insert_1 : decode b_tb_insert 1 = .ok (.getfield 52, 3) := by decide +kernel
theorem d_tb_insert_4 : decode b_tb_insert 4 = .ok (.aload_n 0, 1) := by decide +kernel
theorem d_tb_insert_5 : decode b_tb_insert 5 = .ok (.getfield 15, 3) := by decide +kernel
theorem d_tb_insert_8 : decode b_tb_insert 8 = .ok (.arraylength, 1) := by decide +kernel
theorem d_tb_insert_9 : decode b_tb_insert 9 = .ok (.iconst 1, 1) := by decide +kernel
theorem d_tb_insert_10 : decode b_tb_insert 10 = .ok (.isub, 1) := by decide +kernel
theorem d_tb_insert_11 : decode b_tb_insert 11 = .ok (.if_icmp .ne 19, 3) := by decide +kernel
theorem d_tb_insert_14 : decode b_tb_insert 14 = .ok (.aload_n 0, 1) := by decide +kernel
theorem d_tb_insert_15 : decode b_tb_insert 15 = .ok (.getfield 15, 3) := by decide +kernel
theorem d_tb_insert_18 : decode b_tb_insert 18 = .ok (.arraylength, 1) := by decide +kernel
theorem d_tb_insert_19 : decode b_tb_insert 19 = .ok (.sipush 2048, 3) := by decide +kernel
theorem d_tb_insert_22 : decode b_tb_insert 22 = .ok (.if_icmp .lt 4, 3) := by decide +kernel
theorem d_tb_insert_25 : decode b_tb_insert 25 = .ok (.return_, 1) := by decide +kernel
theorem d_tb_insert_26 : decode b_tb_insert 26 = .ok (.aload_n 0, 1) := by decide +kernel
theorem d_tb_insert_27 : decode b_tb_insert 27 = .ok (.invokevirtual 91, 3) := by decide +kernel
theorem d_tb_insert_30 : decode b_tb_insert 30 = .ok (.aload_n 0, 1) := by decide +kernel
theorem d_tb_insert_31 : decode b_tb_insert 31 = .ok (.invokevirtual 94, 3) := by decide +kernel
theorem d_tb_insert_34 : decode b_tb_insert 34 = .ok (.istore_n 3, 1) := by decide +kernel
theorem d_tb_insert_35 : decode b_tb_insert 35 = .ok (.aload_n 0, 1) := by decide +kernel
theorem d_tb_insert_36 : decode b_tb_insert 36 = .ok (.getfield 15, 3) := by decide +kernel
theorem d_tb_insert_39 : decode b_tb_insert 39 = .ok (.iload_n 3, 1) := by decide +kernel
theorem d_tb_insert_40 : decode b_tb_insert 40 = .ok (.iload_n 1, 1) := by decide +kernel
theorem d_tb_insert_41 : decode b_tb_insert 41 = .ok (.iastore, 1) := by decide +kernel
theorem d_tb_insert_42 : decode b_tb_insert 42 = .ok (.aload_n 0, 1) := by decide +kernel
theorem d_tb_insert_43 : decode b_tb_insert 43 = .ok (.getfield 19, 3) := by decide +kernel
theorem d_tb_insert_46 : decode b_tb_insert 46 = .ok (.iload_n 3, 1) := by decide +kernel
theorem d_tb_insert_47 : decode b_tb_insert 47 = .ok (.iload_n 2, 1) := by decide +kernel
theorem d_tb_insert_48 : decode b_tb_insert 48 = .ok (.iastore, 1) := by decide +kernel
theorem d_tb_insert_49 : decode b_tb_insert 49 = .ok (.aload_n 0, 1) := by decide +kernel
theorem d_tb_insert_50 : decode b_tb_insert 50 = .ok (.iload_n 3, 1) := by decide +kernel
theorem d_tb_insert_51 : decode b_tb_insert 51 = .ok (.invokevirtual 98, 3) := by decide +kernel
theorem d_tb_insert_54 : decode b_tb_insert 54 = .ok (.aload_n 0, 1) := by decide +kernel
theorem d_tb_insert_55 : decode b_tb_insert 55 = .ok (.iload_n 3, 1) := by decide +kernel
theorem d_tb_insert_56 : decode b_tb_insert 56 = .ok (.invokevirtual 101, 3) := by decide +kernel
theorem d_tb_insert_59 : decode b_tb_insert 59 = .ok (.aload_n 0, 1) := by decide +kernel
theorem d_tb_insert_60 : decode b_tb_insert 60 = .ok (.dup, 1) := by decide +kernel
theorem d_tb_insert_61 : decode b_tb_insert 61 = .ok (.getfield 52, 3) := by decide +kernel
theorem d_tb_insert_64 : decode b_tb_insert 64 = .ok (.iconst 1, 1) := by decide +kernel
theorem d_tb_insert_65 : decode b_tb_insert 65 = .ok (.iadd, 1) := by decide +kernel
theorem d_tb_insert_66 : decode b_tb_insert 66 = .ok (.putfield 52, 3) := by decide +kernel
theorem d_tb_insert_69 : decode b_tb_insert 69 = .ok (.return_, 1) := by decide +kernel
theorem d_tb_grow_0 : decode b_tb_grow 0 = .ok (.aload_n 0, 1) := by decide +kernel
theorem d_tb_grow_1 : decode b_tb_grow 1 = .ok (.getfield 15, 3) := by decide +kernel
theorem d_tb_grow_4 : decode b_tb_grow 4 = .ok (.arraylength, 1) := by decide +kernel
theorem d_tb_grow_5 : decode b_tb_grow 5 = .ok (.iconst 2, 1) := by decide +kernel
theorem d_tb_grow_6 : decode b_tb_grow 6 = .ok (.imul, 1) := by decide +kernel
theorem d_tb_grow_7 : decode b_tb_grow 7 = .ok (.istore_n 1, 1) := by decide +kernel
theorem d_tb_grow_8 : decode b_tb_grow 8 = .ok (.aload_n 0, 1) := by decide +kernel
theorem d_tb_grow_9 : decode b_tb_grow 9 = .ok (.aload_n 0, 1) := by decide +kernel
theorem d_tb_grow_10 : decode b_tb_grow 10 = .ok (.getfield 15, 3) := by decide +kernel
theorem d_tb_grow_13 : decode b_tb_grow 13 = .ok (.iload_n 1, 1) := by decide +kernel
theorem d_tb_grow_14 : decode b_tb_grow 14 = .ok (.invokestatic 110, 3) := by decide +kernel
theorem d_tb_grow_17 : decode b_tb_grow 17 = .ok (.putfield 15, 3) := by decide +kernel
theorem d_tb_grow_20 : decode b_tb_grow 20 = .ok (.aload_n 0, 1) := by decide +kernel
theorem d_tb_grow_21 : decode b_tb_grow 21 = .ok (.aload_n 0, 1) := by decide +kernel
theorem d_tb_grow_22 : decode b_tb_grow 22 = .ok (.getfield 19, 3) := by decide +kernel
theorem d_tb_grow_25 : decode b_tb_grow 25 = .ok (.iload_n 1, 1) := by decide +kernel
theorem d_tb_grow_26 : decode b_tb_grow 26 = .ok (.invokestatic 110, 3) := by decide +kernel
theorem d_tb_grow_29 : decode b_tb_grow 29 = .ok (.putfield 19, 3) := by decide +kernel
theorem d_tb_grow_32 : decode b_tb_grow 32 = .ok (.aload_n 0, 1) := by decide +kernel
theorem d_tb_grow_33 : decode b_tb_grow 33 = .ok (.aload_n 0, 1) := by decide +kernel
theorem d_tb_grow_34 : decode b_tb_grow 34 = .ok (.getfield 22, 3) := by decide +kernel
theorem d_tb_grow_37 : decode b_tb_grow 37 = .ok (.iload_n 1, 1) := by decide +kernel
theorem d_tb_grow_38 : decode b_tb_grow 38 = .ok (.invokestatic 110, 3) := by decide +kernel
theorem d_tb_grow_41 : decode b_tb_grow 41 = .ok (.putfield 22, 3) := by decide +kernel
theorem d_tb_grow_44 : decode b_tb_grow 44 = .ok (.aload_n 0, 1) := by decide +kernel
theorem d_tb_grow_45 : decode b_tb_grow 45 = .ok (.aload_n 0, 1) := by decide +kernel
theorem d_tb_grow_46 : decode b_tb_grow 46 = .ok (.getfield 25, 3) := by decide +kernel
theorem d_tb_grow_49 : decode b_tb_grow 49 = .ok (.iload_n 1, 1) := by decide +kernel
theorem d_tb_grow_50 : decode b_tb_grow 50 = .ok (.invokestatic 110, 3) := by decide +kernel
theorem d_tb_grow_53 : decode b_tb_grow 53 = .ok (.putfield 25, 3) := by decide +kernel
theorem d_tb_grow_56 : decode b_tb_grow 56 = .ok (.aload_n 0, 1) := by decide +kernel
theorem d_tb_grow_57 : decode b_tb_grow 57 = .ok (.iload_n 1, 1) := by decide +kernel
theorem d_tb_grow_58 : decode b_tb_grow 58 = .ok (.newarray .int, 2) := by decide +kernel
theorem d_tb_grow_60 : decode b_tb_grow 60 = .ok (.putfield 28, 3) := by decide +kernel
theorem d_tb_grow_63 : decode b_tb_grow 63 = .ok (.aload_n 0, 1) := by decide +kernel
theorem d_tb_grow_64 : decode b_tb_grow 64 = .ok (.iload_n 1, 1) := by decide +kernel
theorem d_tb_grow_65 : decode b_tb_grow 65 = .ok (.newarray .int, 2) := by decide +kernel
theorem d_tb_grow_67 : decode b_tb_grow 67 = .ok (.putfield 31, 3) := by decide +kernel
theorem d_tb_grow_70 : decode b_tb_grow 70 = .ok (.iconst 1, 1) := by decide +kernel
theorem d_tb_grow_71 : decode b_tb_grow 71 = .ok (.istore_n 2, 1) := by decide +kernel
theorem d_tb_grow_72 : decode b_tb_grow 72 = .ok (.iload_n 2, 1) := by decide +kernel
theorem d_tb_grow_73 : decode b_tb_grow 73 = .ok (.aload_n 0, 1) := by decide +kernel
theorem d_tb_grow_74 : decode b_tb_grow 74 = .ok (.getfield 78, 3) := by decide +kernel
theorem d_tb_grow_77 : decode b_tb_grow 77 = .ok (.if_icmp .gt 14, 3) := by decide +kernel
theorem d_tb_grow_80 : decode b_tb_grow 80 = .ok (.aload_n 0, 1) := by decide +kernel
theorem d_tb_grow_81 : decode b_tb_grow 81 = .ok (.iload_n 2, 1) := by decide +kernel
theorem d_tb_grow_82 : decode b_tb_grow 82 = .ok (.invokevirtual 98, 3) := by decide +kernel
theorem d_tb_grow_85 : decode b_tb_grow 85 = .ok (.iinc 2 1, 3) := by decide +kernel
theorem d_tb_grow_88 : decode b_tb_grow 88 = .ok (.goto (-16), 3) := by decide +kernel
theorem d_tb_grow_91 : decode b_tb_grow 91 = .ok (.return_, 1) := by decide +kernel
theorem d_tb_hook_0 : decode b_tb_hook 0 = .ok (.aload_n 0, 1) := by decide +kernel
theorem d_tb_hook_1 : decode b_tb_hook 1 = .ok (.aload_n 0, 1) := by decide +kernel
theorem d_tb_hook_2 : decode b_tb_hook 2 = .ok (.getfield 15, 3) := by decide +kernel
theorem d_tb_hook_5 : decode b_tb_hook 5 = .ok (.iload_n 1, 1) := by decide +kernel
theorem d_tb_hook_6 : decode b_tb_hook 6 = .ok (.iaload, 1) := by decide +kernel
theorem d_tb_hook_7 : decode b_tb_hook 7 = .ok (.invokevirtual 87, 3) := by decide +kernel
theorem d_tb_hook_10 : decode b_tb_hook 10 = .ok (.istore_n 2, 1) := by decide +kernel
theorem d_tb_hook_11 : decode b_tb_hook 11 = .ok (.aload_n 0, 1) := by decide +kernel
theorem d_tb_hook_12 : decode b_tb_hook 12 = .ok (.getfield 31, 3) := by decide +kernel
theorem d_tb_hook_15 : decode b_tb_hook 15 = .ok (.iload_n 1, 1) := by decide +kernel
theorem d_tb_hook_16 : decode b_tb_hook 16 = .ok (.aload_n 0, 1) := by decide +kernel
theorem d_tb_hook_17 : decode b_tb_hook 17 = .ok (.getfield 28, 3) := by decide +kernel
theorem d_tb_hook_20 : decode b_tb_hook 20 = .ok (.iload_n 2, 1) := by decide +kernel
theorem d_tb_hook_21 : decode b_tb_hook 21 = .ok (.iaload, 1) := by decide +kernel
theorem d_tb_hook_22 : decode b_tb_hook 22 = .ok (.iastore, 1) := by decide +kernel
theorem d_tb_hook_23 : decode b_tb_hook 23 = .ok (.aload_n 0, 1) := by decide +kernel
theorem d_tb_hook_24 : decode b_tb_hook 24 = .ok (.getfield 28, 3) := by decide +kernel
theorem d_tb_hook_27 : decode b_tb_hook 27 = .ok (.iload_n 2, 1) := by decide +kernel
theorem d_tb_hook_28 : decode b_tb_hook 28 = .ok (.iload_n 1, 1) := by decide +kernel
theorem d_tb_hook_29 : decode b_tb_hook 29 = .ok (.iastore, 1) := by decide +kernel
theorem d_tb_hook_30 : decode b_tb_hook 30 = .ok (.return_, 1) := by decide +kernel
theorem d_tb_freeSlot_0 : decode b_tb_freeSlot 0 = .ok (.aload_n 0, 1) := by decide +kernel
theorem d_tb_freeSlot_1 : decode b_tb_freeSlot 1 = .ok (.getfield 75, 3) := by decide +kernel
theorem d_tb_freeSlot_4 : decode b_tb_freeSlot 4 = .ok (.ifCond .eq 20, 3) := by decide +kernel
theorem d_tb_freeSlot_7 : decode b_tb_freeSlot 7 = .ok (.aload_n 0, 1) := by decide +kernel
theorem d_tb_freeSlot_8 : decode b_tb_freeSlot 8 = .ok (.getfield 75, 3) := by decide +kernel
theorem d_tb_freeSlot_11 : decode b_tb_freeSlot 11 = .ok (.istore_n 1, 1) := by decide +kernel
theorem d_tb_freeSlot_12 : decode b_tb_freeSlot 12 = .ok (.aload_n 0, 1) := by decide +kernel
theorem d_tb_freeSlot_13 : decode b_tb_freeSlot 13 = .ok (.aload_n 0, 1) := by decide +kernel
theorem d_tb_freeSlot_14 : decode b_tb_freeSlot 14 = .ok (.getfield 31, 3) := by decide +kernel
theorem d_tb_freeSlot_17 : decode b_tb_freeSlot 17 = .ok (.iload_n 1, 1) := by decide +kernel
theorem d_tb_freeSlot_18 : decode b_tb_freeSlot 18 = .ok (.iaload, 1) := by decide +kernel
theorem d_tb_freeSlot_19 : decode b_tb_freeSlot 19 = .ok (.putfield 75, 3) := by decide +kernel
theorem d_tb_freeSlot_22 : decode b_tb_freeSlot 22 = .ok (.iload_n 1, 1) := by decide +kernel
theorem d_tb_freeSlot_23 : decode b_tb_freeSlot 23 = .ok (.ireturn, 1) := by decide +kernel
theorem d_tb_freeSlot_24 : decode b_tb_freeSlot 24 = .ok (.aload_n 0, 1) := by decide +kernel
theorem d_tb_freeSlot_25 : decode b_tb_freeSlot 25 = .ok (.dup, 1) := by decide +kernel
theorem d_tb_freeSlot_26 : decode b_tb_freeSlot 26 = .ok (.getfield 78, 3) := by decide +kernel
theorem d_tb_freeSlot_29 : decode b_tb_freeSlot 29 = .ok (.iconst 1, 1) := by decide +kernel
theorem d_tb_freeSlot_30 : decode b_tb_freeSlot 30 = .ok (.iadd, 1) := by decide +kernel
theorem d_tb_freeSlot_31 : decode b_tb_freeSlot 31 = .ok (.putfield 78, 3) := by decide +kernel
theorem d_tb_freeSlot_34 : decode b_tb_freeSlot 34 = .ok (.aload_n 0, 1) := by decide +kernel
theorem d_tb_freeSlot_35 : decode b_tb_freeSlot 35 = .ok (.getfield 78, 3) := by decide +kernel
theorem d_tb_freeSlot_38 : decode b_tb_freeSlot 38 = .ok (.ireturn, 1) := by decide +kernel
theorem d_tb_linkLast_0 : decode b_tb_linkLast 0 = .ok (.aload_n 0, 1) := by decide +kernel
theorem d_tb_linkLast_1 : decode b_tb_linkLast 1 = .ok (.getfield 22, 3) := by decide +kernel
theorem d_tb_linkLast_4 : decode b_tb_linkLast 4 = .ok (.iconst 0, 1) := by decide +kernel
theorem d_tb_linkLast_5 : decode b_tb_linkLast 5 = .ok (.iaload, 1) := by decide +kernel
theorem d_tb_linkLast_6 : decode b_tb_linkLast 6 = .ok (.istore_n 2, 1) := by decide +kernel
theorem d_tb_linkLast_7 : decode b_tb_linkLast 7 = .ok (.aload_n 0, 1) := by decide +kernel
theorem d_tb_linkLast_8 : decode b_tb_linkLast 8 = .ok (.getfield 25, 3) := by decide +kernel
theorem d_tb_linkLast_11 : decode b_tb_linkLast 11 = .ok (.iload_n 2, 1) := by decide +kernel
theorem d_tb_linkLast_12 : decode b_tb_linkLast 12 = .ok (.iload_n 1, 1) := by decide +kernel
theorem d_tb_linkLast_13 : decode b_tb_linkLast 13 = .ok (.iastore, 1) := by decide +kernel
theorem d_tb_linkLast_14 : decode b_tb_linkLast 14 = .ok (.aload_n 0, 1) := by decide +kernel
theorem d_tb_linkLast_15 : decode b_tb_linkLast 15 = .ok (.getfield 22, 3) := by decide +kernel
theorem d_tb_linkLast_18 : decode b_tb_linkLast 18 = .ok (.iload_n 1, 1) := by decide +kernel
theorem d_tb_linkLast_19 : decode b_tb_linkLast 19 = .ok (.iload_n 2, 1) := by decide +kernel
theorem d_tb_linkLast_20 : decode b_tb_linkLast 20 = .ok (.iastore, 1) := by decide +kernel
theorem d_tb_linkLast_21 : decode b_tb_linkLast 21 = .ok (.aload_n 0, 1) := by decide +kernel
theorem d_tb_linkLast_22 : decode b_tb_linkLast 22 = .ok (.getfield 25, 3) := by decide +kernel
theorem d_tb_linkLast_25 : decode b_tb_linkLast 25 = .ok (.iload_n 1, 1) := by decide +kernel
theorem d_tb_linkLast_26 : decode b_tb_linkLast 26 = .ok (.iconst 0, 1) := by decide +kernel
theorem d_tb_linkLast_27 : decode b_tb_linkLast 27 = .ok (.iastore, 1) := by decide +kernel
theorem d_tb_linkLast_28 : decode b_tb_linkLast 28 = .ok (.aload_n 0, 1) := by decide +kernel
theorem d_tb_linkLast_29 : decode b_tb_linkLast 29 = .ok (.getfield 22, 3) := by decide +kernel
theorem d_tb_linkLast_32 : decode b_tb_linkLast 32 = .ok (.iconst 0, 1) := by decide +kernel
theorem d_tb_linkLast_33 : decode b_tb_linkLast 33 = .ok (.iload_n 1, 1) := by decide +kernel
theorem d_tb_linkLast_34 : decode b_tb_linkLast 34 = .ok (.iastore, 1) := by decide +kernel
theorem d_tb_linkLast_35 : decode b_tb_linkLast 35 = .ok (.return_, 1) := by decide +kernel
theorem d_tb_use_0 : decode b_tb_use 0 = .ok (.aload_n 0, 1) := by decide +kernel
theorem d_tb_use_1 : decode b_tb_use 1 = .ok (.getfield 9, 3) := by decide +kernel
theorem d_tb_use_4 : decode b_tb_use 4 = .ok (.ifCond .eq 13, 3) := by decide +kernel
theorem d_tb_use_7 : decode b_tb_use 7 = .ok (.aload_n 0, 1) := by decide +kernel
theorem d_tb_use_8 : decode b_tb_use 8 = .ok (.iload_n 1, 1) := by decide +kernel
theorem d_tb_use_9 : decode b_tb_use 9 = .ok (.invokevirtual 107, 3) := by decide +kernel
theorem d_tb_use_12 : decode b_tb_use 12 = .ok (.aload_n 0, 1) := by decide +kernel
theorem d_tb_use_13 : decode b_tb_use 13 = .ok (.iload_n 1, 1) := by decide +kernel
theorem d_tb_use_14 : decode b_tb_use 14 = .ok (.invokevirtual 101, 3) := by decide +kernel
theorem d_tb_use_17 : decode b_tb_use 17 = .ok (.return_, 1) := by decide +kernel
theorem d_tb_unlink_0 : decode b_tb_unlink 0 = .ok (.aload_n 0, 1) := by decide +kernel
theorem d_tb_unlink_1 : decode b_tb_unlink 1 = .ok (.getfield 25, 3) := by decide +kernel
theorem d_tb_unlink_4 : decode b_tb_unlink 4 = .ok (.aload_n 0, 1) := by decide +kernel
theorem d_tb_unlink_5 : decode b_tb_unlink 5 = .ok (.getfield 22, 3) := by decide +kernel
theorem d_tb_unlink_8 : decode b_tb_unlink 8 = .ok (.iload_n 1, 1) := by decide +kernel
theorem d_tb_unlink_9 : decode b_tb_unlink 9 = .ok (.iaload, 1) := by decide +kernel
theorem d_tb_unlink_10 : decode b_tb_unlink 10 = .ok (.aload_n 0, 1) := by decide +kernel
theorem d_tb_unlink_11 : decode b_tb_unlink 11 = .ok (.getfield 25, 3) := by decide +kernel
theorem d_tb_unlink_14 : decode b_tb_unlink 14 = .ok (.iload_n 1, 1) := by decide +kernel
theorem d_tb_unlink_15 : decode b_tb_unlink 15 = .ok (.iaload, 1) := by decide +kernel
theorem d_tb_unlink_16 : decode b_tb_unlink 16 = .ok (.iastore, 1) := by decide +kernel
theorem d_tb_unlink_17 : decode b_tb_unlink 17 = .ok (.aload_n 0, 1) := by decide +kernel
theorem d_tb_unlink_18 : decode b_tb_unlink 18 = .ok (.getfield 22, 3) := by decide +kernel
theorem d_tb_unlink_21 : decode b_tb_unlink 21 = .ok (.aload_n 0, 1) := by decide +kernel
theorem d_tb_unlink_22 : decode b_tb_unlink 22 = .ok (.getfield 25, 3) := by decide +kernel
theorem d_tb_unlink_25 : decode b_tb_unlink 25 = .ok (.iload_n 1, 1) := by decide +kernel
theorem d_tb_unlink_26 : decode b_tb_unlink 26 = .ok (.iaload, 1) := by decide +kernel
theorem d_tb_unlink_27 : decode b_tb_unlink 27 = .ok (.aload_n 0, 1) := by decide +kernel
theorem d_tb_unlink_28 : decode b_tb_unlink 28 = .ok (.getfield 22, 3) := by decide +kernel
theorem d_tb_unlink_31 : decode b_tb_unlink 31 = .ok (.iload_n 1, 1) := by decide +kernel
theorem d_tb_unlink_32 : decode b_tb_unlink 32 = .ok (.iaload, 1) := by decide +kernel
theorem d_tb_unlink_33 : decode b_tb_unlink 33 = .ok (.iastore, 1) := by decide +kernel
theorem d_tb_unlink_34 : decode b_tb_unlink 34 = .ok (.return_, 1) := by decide +kernel
theorem d_tb_storeIfNew_0 : decode b_tb_storeIfNew 0 = .ok (.aload_n 0, 1) := by decide +kernel
theorem d_tb_storeIfNew_1 : decode b_tb_storeIfNew 1 = .ok (.iload_n 1, 1) := by decide +kernel
theorem d_tb_storeIfNew_2 : decode b_tb_storeIfNew 2 = .ok (.invokevirtual 48, 3) := by decide +kernel
theorem d_tb_storeIfNew_5 : decode b_tb_storeIfNew 5 = .ok (.lstore_n 3, 1) := by decide +kernel
theorem d_tb_storeIfNew_6 : decode b_tb_storeIfNew 6 = .ok (.lload_n 3, 1) := by decide +kernel
theorem d_tb_storeIfNew_7 : decode b_tb_storeIfNew 7 = .ok (.ldc2_w 42, 3) := by decide +kernel
theorem d_tb_storeIfNew_10 : decode b_tb_storeIfNew 10 = .ok (.lcmp, 1) := by decide +kernel
theorem d_tb_storeIfNew_11 : decode b_tb_storeIfNew 11 = .ok (.ifCond .ne 9, 3) := by decide +kernel
theorem d_tb_storeIfNew_14 : decode b_tb_storeIfNew 14 = .ok (.aload_n 0, 1) := by decide +kernel
theorem d_tb_storeIfNew_15 : decode b_tb_storeIfNew 15 = .ok (.iload_n 1, 1) := by decide +kernel
theorem d_tb_storeIfNew_16 : decode b_tb_storeIfNew 16 = .ok (.iload_n 2, 1) := by decide +kernel
theorem d_tb_storeIfNew_17 : decode b_tb_storeIfNew 17 = .ok (.invokevirtual 38, 3) := by decide +kernel
theorem d_tb_storeIfNew_20 : decode b_tb_storeIfNew 20 = .ok (.lload_n 3, 1) := by decide +kernel
theorem d_tb_storeIfNew_21 : decode b_tb_storeIfNew 21 = .ok (.lreturn, 1) := by decide +kernel
theorem d_tb_lookUp_0 : decode b_tb_lookUp 0 = .ok (.aload_n 0, 1) := by decide +kernel
theorem d_tb_lookUp_1 : decode b_tb_lookUp 1 = .ok (.iload_n 1, 1) := by decide +kernel
theorem d_tb_lookUp_2 : decode b_tb_lookUp 2 = .ok (.invokevirtual 34, 3) := by decide +kernel
theorem d_tb_lookUp_5 : decode b_tb_lookUp 5 = .ok (.istore_n 2, 1) := by decide +kernel
theorem d_tb_lookUp_6 : decode b_tb_lookUp 6 = .ok (.iload_n 2, 1) := by decide +kernel
theorem d_tb_lookUp_7 : decode b_tb_lookUp 7 = .ok (.ifCond .ne 7, 3) := by decide +kernel
theorem d_tb_lookUp_10 : decode b_tb_lookUp 10 = .ok (.ldc2_w 42, 3) := by decide +kernel
theorem d_tb_lookUp_13 : decode b_tb_lookUp 13 = .ok (.lreturn, 1) := by decide +kernel
theorem d_tb_lookUp_14 : decode b_tb_lookUp 14 = .ok (.aload_n 0, 1) := by decide +kernel
theorem d_tb_lookUp_15 : decode b_tb_lookUp 15 = .ok (.iload_n 2, 1) := by decide +kernel
theorem d_tb_lookUp_16 : decode b_tb_lookUp 16 = .ok (.invokevirtual 44, 3) := by decide +kernel
theorem d_tb_lookUp_19 : decode b_tb_lookUp 19 = .ok (.aload_n 0, 1) := by decide +kernel
theorem d_tb_lookUp_20 : decode b_tb_lookUp 20 = .ok (.getfield 19, 3) := by decide +kernel
theorem d_tb_lookUp_23 : decode b_tb_lookUp 23 = .ok (.iload_n 2, 1) := by decide +kernel
theorem d_tb_lookUp_24 : decode b_tb_lookUp 24 = .ok (.iaload, 1) := by decide +kernel
theorem d_tb_lookUp_25 : decode b_tb_lookUp 25 = .ok (.i2l, 1) := by decide +kernel
theorem d_tb_lookUp_26 : decode b_tb_lookUp 26 = .ok (.lreturn, 1) := by decide +kernel
theorem d_tb_dropKey_0 : decode b_tb_dropKey 0 = .ok (.aload_n 0, 1) := by decide +kernel
theorem d_tb_dropKey_1 : decode b_tb_dropKey 1 = .ok (.iload_n 1, 1) := by decide +kernel
theorem d_tb_dropKey_2 : decode b_tb_dropKey 2 = .ok (.invokevirtual 34, 3) := by decide +kernel
theorem d_tb_dropKey_5 : decode b_tb_dropKey 5 = .ok (.istore_n 2, 1) := by decide +kernel
theorem d_tb_dropKey_6 : decode b_tb_dropKey 6 = .ok (.iload_n 2, 1) := by decide +kernel
theorem d_tb_dropKey_7 : decode b_tb_dropKey 7 = .ok (.ifCond .ne 7, 3) := by decide +kernel
theorem d_tb_dropKey_10 : decode b_tb_dropKey 10 = .ok (.ldc2_w 42, 3) := by decide +kernel
theorem d_tb_dropKey_13 : decode b_tb_dropKey 13 = .ok (.lreturn, 1) := by decide +kernel
theorem d_tb_dropKey_14 : decode b_tb_dropKey 14 = .ok (.aload_n 0, 1) := by decide +kernel
theorem d_tb_dropKey_15 : decode b_tb_dropKey 15 = .ok (.getfield 19, 3) := by decide +kernel
theorem d_tb_dropKey_18 : decode b_tb_dropKey 18 = .ok (.iload_n 2, 1) := by decide +kernel
theorem d_tb_dropKey_19 : decode b_tb_dropKey 19 = .ok (.iaload, 1) := by decide +kernel
theorem d_tb_dropKey_20 : decode b_tb_dropKey 20 = .ok (.i2l, 1) := by decide +kernel
theorem d_tb_dropKey_21 : decode b_tb_dropKey 21 = .ok (.lstore_n 3, 1) := by decide +kernel
theorem d_tb_dropKey_22 : decode b_tb_dropKey 22 = .ok (.aload_n 0, 1) := by decide +kernel
theorem d_tb_dropKey_23 : decode b_tb_dropKey 23 = .ok (.iload_n 2, 1) := by decide +kernel
theorem d_tb_dropKey_24 : decode b_tb_dropKey 24 = .ok (.invokevirtual 60, 3) := by decide +kernel
theorem d_tb_dropKey_27 : decode b_tb_dropKey 27 = .ok (.lload_n 3, 1) := by decide +kernel
theorem d_tb_dropKey_28 : decode b_tb_dropKey 28 = .ok (.lreturn, 1) := by decide +kernel
theorem d_tb_drop_0 : decode b_tb_drop 0 = .ok (.aload_n 0, 1) := by decide +kernel
theorem d_tb_drop_1 : decode b_tb_drop 1 = .ok (.iload_n 1, 1) := by decide +kernel
theorem d_tb_drop_2 : decode b_tb_drop 2 = .ok (.invokevirtual 104, 3) := by decide +kernel
theorem d_tb_drop_5 : decode b_tb_drop 5 = .ok (.aload_n 0, 1) := by decide +kernel
theorem d_tb_drop_6 : decode b_tb_drop 6 = .ok (.iload_n 1, 1) := by decide +kernel
theorem d_tb_drop_7 : decode b_tb_drop 7 = .ok (.invokevirtual 107, 3) := by decide +kernel
theorem d_tb_drop_10 : decode b_tb_drop 10 = .ok (.aload_n 0, 1) := by decide +kernel
theorem d_tb_drop_11 : decode b_tb_drop 11 = .ok (.getfield 31, 3) := by decide +kernel
theorem d_tb_drop_14 : decode b_tb_drop 14 = .ok (.iload_n 1, 1) := by decide +kernel
theorem d_tb_drop_15 : decode b_tb_drop 15 = .ok (.aload_n 0, 1) := by decide +kernel
theorem d_tb_drop_16 : decode b_tb_drop 16 = .ok (.getfield 75, 3) := by decide +kernel
theorem d_tb_drop_19 : decode b_tb_drop 19 = .ok (.iastore, 1) := by decide +kernel
theorem d_tb_drop_20 : decode b_tb_drop 20 = .ok (.aload_n 0, 1) := by decide +kernel
theorem d_tb_drop_21 : decode b_tb_drop 21 = .ok (.iload_n 1, 1) := by decide +kernel
theorem d_tb_drop_22 : decode b_tb_drop 22 = .ok (.putfield 75, 3) := by decide +kernel
theorem d_tb_drop_25 : decode b_tb_drop 25 = .ok (.aload_n 0, 1) := by decide +kernel
theorem d_tb_drop_26 : decode b_tb_drop 26 = .ok (.dup, 1) := by decide +kernel
theorem d_tb_drop_27 : decode b_tb_drop 27 = .ok (.getfield 52, 3) := by decide +kernel
theorem d_tb_drop_30 : decode b_tb_drop 30 = .ok (.iconst 1, 1) := by decide +kernel
theorem d_tb_drop_31 : decode b_tb_drop 31 = .ok (.isub, 1) := by decide +kernel
theorem d_tb_drop_32 : decode b_tb_drop 32 = .ok (.putfield 52, 3) := by decide +kernel
theorem d_tb_drop_35 : decode b_tb_drop 35 = .ok (.return_, 1) := by decide +kernel
theorem d_tb_unhook_0 : decode b_tb_unhook 0 = .ok (.aload_n 0, 1) := by decide +kernel
theorem d_tb_unhook_1 : decode b_tb_unhook 1 = .ok (.aload_n 0, 1) := by decide +kernel
theorem d_tb_unhook_2 : decode b_tb_unhook 2 = .ok (.getfield 15, 3) := by decide +kernel
theorem d_tb_unhook_5 : decode b_tb_unhook 5 = .ok (.iload_n 1, 1) := by decide +kernel
theorem d_tb_unhook_6 : decode b_tb_unhook 6 = .ok (.iaload, 1) := by decide +kernel
theorem d_tb_unhook_7 : decode b_tb_unhook 7 = .ok (.invokevirtual 87, 3) := by decide +kernel
theorem d_tb_unhook_10 : decode b_tb_unhook 10 = .ok (.istore_n 2, 1) := by decide +kernel
theorem d_tb_unhook_11 : decode b_tb_unhook 11 = .ok (.aload_n 0, 1) := by decide +kernel
theorem d_tb_unhook_12 : decode b_tb_unhook 12 = .ok (.getfield 28, 3) := by decide +kernel
theorem d_tb_unhook_15 : decode b_tb_unhook 15 = .ok (.iload_n 2, 1) := by decide +kernel
theorem d_tb_unhook_16 : decode b_tb_unhook 16 = .ok (.iaload, 1) := by decide +kernel
theorem d_tb_unhook_17 : decode b_tb_unhook 17 = .ok (.istore_n 3, 1) := by decide +kernel
theorem d_tb_unhook_18 : decode b_tb_unhook 18 = .ok (.iload_n 3, 1) := by decide +kernel
theorem d_tb_unhook_19 : decode b_tb_unhook 19 = .ok (.iload_n 1, 1) := by decide +kernel
theorem d_tb_unhook_20 : decode b_tb_unhook 20 = .ok (.if_icmp .ne 16, 3) := by decide +kernel
theorem d_tb_unhook_23 : decode b_tb_unhook 23 = .ok (.aload_n 0, 1) := by decide +kernel
theorem d_tb_unhook_24 : decode b_tb_unhook 24 = .ok (.getfield 28, 3) := by decide +kernel
theorem d_tb_unhook_27 : decode b_tb_unhook 27 = .ok (.iload_n 2, 1) := by decide +kernel
theorem d_tb_unhook_28 : decode b_tb_unhook 28 = .ok (.aload_n 0, 1) := by decide +kernel
theorem d_tb_unhook_29 : decode b_tb_unhook 29 = .ok (.getfield 31, 3) := by decide +kernel
theorem d_tb_unhook_32 : decode b_tb_unhook 32 = .ok (.iload_n 1, 1) := by decide +kernel
theorem d_tb_unhook_33 : decode b_tb_unhook 33 = .ok (.iaload, 1) := by decide +kernel
theorem d_tb_unhook_34 : decode b_tb_unhook 34 = .ok (.iastore, 1) := by decide +kernel
theorem d_tb_unhook_35 : decode b_tb_unhook 35 = .ok (.return_, 1) := by decide +kernel
theorem d_tb_unhook_36 : decode b_tb_unhook 36 = .ok (.iconst 0, 1) := by decide +kernel
theorem d_tb_unhook_37 : decode b_tb_unhook 37 = .ok (.istore 4, 2) := by decide +kernel
theorem d_tb_unhook_39 : decode b_tb_unhook 39 = .ok (.iload 4, 2) := by decide +kernel
theorem d_tb_unhook_41 : decode b_tb_unhook 41 = .ok (.aload_n 0, 1) := by decide +kernel
theorem d_tb_unhook_42 : decode b_tb_unhook 42 = .ok (.getfield 52, 3) := by decide +kernel
theorem d_tb_unhook_45 : decode b_tb_unhook 45 = .ok (.if_icmp .ge 43, 3) := by decide +kernel
theorem d_tb_unhook_48 : decode b_tb_unhook 48 = .ok (.iload_n 3, 1) := by decide +kernel
theorem d_tb_unhook_49 : decode b_tb_unhook 49 = .ok (.ifCond .eq 39, 3) := by decide +kernel
theorem d_tb_unhook_52 : decode b_tb_unhook 52 = .ok (.aload_n 0, 1) := by decide +kernel
theorem d_tb_unhook_53 : decode b_tb_unhook 53 = .ok (.getfield 31, 3) := by decide +kernel
theorem d_tb_unhook_56 : decode b_tb_unhook 56 = .ok (.iload_n 3, 1) := by decide +kernel
theorem d_tb_unhook_57 : decode b_tb_unhook 57 = .ok (.iaload, 1) := by decide +kernel
theorem d_tb_unhook_58 : decode b_tb_unhook 58 = .ok (.iload_n 1, 1) := by decide +kernel
theorem d_tb_unhook_59 : decode b_tb_unhook 59 = .ok (.if_icmp .ne 16, 3) := by decide +kernel
theorem d_tb_unhook_62 : decode b_tb_unhook 62 = .ok (.aload_n 0, 1) := by decide +kernel
theorem d_tb_unhook_63 : decode b_tb_unhook 63 = .ok (.getfield 31, 3) := by decide +kernel
theorem d_tb_unhook_66 : decode b_tb_unhook 66 = .ok (.iload_n 3, 1) := by decide +kernel
theorem d_tb_unhook_67 : decode b_tb_unhook 67 = .ok (.aload_n 0, 1) := by decide +kernel
theorem d_tb_unhook_68 : decode b_tb_unhook 68 = .ok (.getfield 31, 3) := by decide +kernel
theorem d_tb_unhook_71 : decode b_tb_unhook 71 = .ok (.iload_n 1, 1) := by decide +kernel
theorem d_tb_unhook_72 : decode b_tb_unhook 72 = .ok (.iaload, 1) := by decide +kernel
theorem d_tb_unhook_73 : decode b_tb_unhook 73 = .ok (.iastore, 1) := by decide +kernel
theorem d_tb_unhook_74 : decode b_tb_unhook 74 = .ok (.return_, 1) := by decide +kernel
theorem d_tb_unhook_75 : decode b_tb_unhook 75 = .ok (.aload_n 0, 1) := by decide +kernel
theorem d_tb_unhook_76 : decode b_tb_unhook 76 = .ok (.getfield 31, 3) := by decide +kernel
theorem d_tb_unhook_79 : decode b_tb_unhook 79 = .ok (.iload_n 3, 1) := by decide +kernel
theorem d_tb_unhook_80 : decode b_tb_unhook 80 = .ok (.iaload, 1) := by decide +kernel
theorem d_tb_unhook_81 : decode b_tb_unhook 81 = .ok (.istore_n 3, 1) := by decide +kernel
theorem d_tb_unhook_82 : decode b_tb_unhook 82 = .ok (.iinc 4 1, 3) := by decide +kernel
theorem d_tb_unhook_85 : decode b_tb_unhook 85 = .ok (.goto (-46), 3) := by decide +kernel
theorem d_tb_unhook_88 : decode b_tb_unhook 88 = .ok (.return_, 1) := by decide +kernel
theorem d_tb_dropPair_0 : decode b_tb_dropPair 0 = .ok (.aload_n 0, 1) := by decide +kernel
theorem d_tb_dropPair_1 : decode b_tb_dropPair 1 = .ok (.iload_n 1, 1) := by decide +kernel
theorem d_tb_dropPair_2 : decode b_tb_dropPair 2 = .ok (.invokevirtual 34, 3) := by decide +kernel
theorem d_tb_dropPair_5 : decode b_tb_dropPair 5 = .ok (.istore_n 3, 1) := by decide +kernel
theorem d_tb_dropPair_6 : decode b_tb_dropPair 6 = .ok (.iload_n 3, 1) := by decide +kernel
theorem d_tb_dropPair_7 : decode b_tb_dropPair 7 = .ok (.ifCond .eq 13, 3) := by decide +kernel
theorem d_tb_dropPair_10 : decode b_tb_dropPair 10 = .ok (.aload_n 0, 1) := by decide +kernel
theorem d_tb_dropPair_11 : decode b_tb_dropPair 11 = .ok (.getfield 19, 3) := by decide +kernel
theorem d_tb_dropPair_14 : decode b_tb_dropPair 14 = .ok (.iload_n 3, 1) := by decide +kernel
theorem d_tb_dropPair_15 : decode b_tb_dropPair 15 = .ok (.iaload, 1) := by decide +kernel
theorem d_tb_dropPair_16 : decode b_tb_dropPair 16 = .ok (.iload_n 2, 1) := by decide +kernel
theorem d_tb_dropPair_17 : decode b_tb_dropPair 17 = .ok (.if_icmp .eq 5, 3) := by decide +kernel
theorem d_tb_dropPair_20 : decode b_tb_dropPair 20 = .ok (.iconst 0, 1) := by decide +kernel
theorem d_tb_dropPair_21 : decode b_tb_dropPair 21 = .ok (.ireturn, 1) := by decide +kernel
theorem d_tb_dropPair_22 : decode b_tb_dropPair 22 = .ok (.aload_n 0, 1) := by decide +kernel
theorem d_tb_dropPair_23 : decode b_tb_dropPair 23 = .ok (.iload_n 3, 1) := by decide +kernel
theorem d_tb_dropPair_24 : decode b_tb_dropPair 24 = .ok (.invokevirtual 60, 3) := by decide +kernel
theorem d_tb_dropPair_27 : decode b_tb_dropPair 27 = .ok (.iconst 1, 1) := by decide +kernel
theorem d_tb_dropPair_28 : decode b_tb_dropPair 28 = .ok (.ireturn, 1) := by decide +kernel
theorem d_tb_holdsKey_0 : decode b_tb_holdsKey 0 = .ok (.aload_n 0, 1) := by decide +kernel
theorem d_tb_holdsKey_1 : decode b_tb_holdsKey 1 = .ok (.iload_n 1, 1) := by decide +kernel
theorem d_tb_holdsKey_2 : decode b_tb_holdsKey 2 = .ok (.invokevirtual 34, 3) := by decide +kernel
theorem d_tb_holdsKey_5 : decode b_tb_holdsKey 5 = .ok (.ifCond .eq 7, 3) := by decide +kernel
theorem d_tb_holdsKey_8 : decode b_tb_holdsKey 8 = .ok (.iconst 1, 1) := by decide +kernel
theorem d_tb_holdsKey_9 : decode b_tb_holdsKey 9 = .ok (.goto 4, 3) := by decide +kernel
theorem d_tb_holdsKey_12 : decode b_tb_holdsKey 12 = .ok (.iconst 0, 1) := by decide +kernel
theorem d_tb_holdsKey_13 : decode b_tb_holdsKey 13 = .ok (.ireturn, 1) := by decide +kernel
theorem d_tb_holdsValue_0 : decode b_tb_holdsValue 0 = .ok (.aload_n 0, 1) := by decide +kernel
theorem d_tb_holdsValue_1 : decode b_tb_holdsValue 1 = .ok (.getfield 25, 3) := by decide +kernel
theorem d_tb_holdsValue_4 : decode b_tb_holdsValue 4 = .ok (.iconst 0, 1) := by decide +kernel
theorem d_tb_holdsValue_5 : decode b_tb_holdsValue 5 = .ok (.iaload, 1) := by decide +kernel
theorem d_tb_holdsValue_6 : decode b_tb_holdsValue 6 = .ok (.istore_n 2, 1) := by decide +kernel
theorem d_tb_holdsValue_7 : decode b_tb_holdsValue 7 = .ok (.iconst 0, 1) := by decide +kernel
theorem d_tb_holdsValue_8 : decode b_tb_holdsValue 8 = .ok (.istore_n 3, 1) := by decide +kernel
theorem d_tb_holdsValue_9 : decode b_tb_holdsValue 9 = .ok (.iload_n 3, 1) := by decide +kernel
theorem d_tb_holdsValue_10 : decode b_tb_holdsValue 10 = .ok (.aload_n 0, 1) := by decide +kernel
theorem d_tb_holdsValue_11 : decode b_tb_holdsValue 11 = .ok (.getfield 52, 3) := by decide +kernel
theorem d_tb_holdsValue_14 : decode b_tb_holdsValue 14 = .ok (.if_icmp .ge 28, 3) := by decide +kernel
theorem d_tb_holdsValue_17 : decode b_tb_holdsValue 17 = .ok (.aload_n 0, 1) := by decide +kernel
theorem d_tb_holdsValue_18 : decode b_tb_holdsValue 18 = .ok (.getfield 19, 3) := by decide +kernel
theorem d_tb_holdsValue_21 : decode b_tb_holdsValue 21 = .ok (.iload_n 2, 1) := by decide +kernel
theorem d_tb_holdsValue_22 : decode b_tb_holdsValue 22 = .ok (.iaload, 1) := by decide +kernel
theorem d_tb_holdsValue_23 : decode b_tb_holdsValue 23 = .ok (.iload_n 1, 1) := by decide +kernel
theorem d_tb_holdsValue_24 : decode b_tb_holdsValue 24 = .ok (.if_icmp .ne 5, 3) := by decide +kernel
theorem d_tb_holdsValue_27 : decode b_tb_holdsValue 27 = .ok (.iconst 1, 1) := by decide +kernel
theorem d_tb_holdsValue_28 : decode b_tb_holdsValue 28 = .ok (.ireturn, 1) := by decide +kernel
theorem d_tb_holdsValue_29 : decode b_tb_holdsValue 29 = .ok (.aload_n 0, 1) := by decide +kernel
theorem d_tb_holdsValue_30 : decode b_tb_holdsValue 30 = .ok (.getfield 25, 3) := by decide +kernel
theorem d_tb_holdsValue_33 : decode b_tb_holdsValue 33 = .ok (.iload_n 2, 1) := by decide +kernel
theorem d_tb_holdsValue_34 : decode b_tb_holdsValue 34 = .ok (.iaload, 1) := by decide +kernel
theorem d_tb_holdsValue_35 : decode b_tb_holdsValue 35 = .ok (.istore_n 2, 1) := by decide +kernel
theorem d_tb_holdsValue_36 : decode b_tb_holdsValue 36 = .ok (.iinc 3 1, 3) := by decide +kernel
theorem d_tb_holdsValue_39 : decode b_tb_holdsValue 39 = .ok (.goto (-30), 3) := by decide +kernel
theorem d_tb_holdsValue_42 : decode b_tb_holdsValue 42 = .ok (.iconst 0, 1) := by decide +kernel
theorem d_tb_holdsValue_43 : decode b_tb_holdsValue 43 = .ok (.ireturn, 1) := by decide +kernel
theorem d_tb_dropAll_0 : decode b_tb_dropAll 0 = .ok (.aload_n 0, 1) := by decide +kernel
theorem d_tb_dropAll_1 : decode b_tb_dropAll 1 = .ok (.getfield 52, 3) := by decide +kernel
theorem d_tb_dropAll_4 : decode b_tb_dropAll 4 = .ok (.istore_n 1, 1) := by decide +kernel
theorem d_tb_dropAll_5 : decode b_tb_dropAll 5 = .ok (.aload_n 0, 1) := by decide +kernel
theorem d_tb_dropAll_6 : decode b_tb_dropAll 6 = .ok (.getfield 28, 3) := by decide +kernel
theorem d_tb_dropAll_9 : decode b_tb_dropAll 9 = .ok (.iconst 0, 1) := by decide +kernel
theorem d_tb_dropAll_10 : decode b_tb_dropAll 10 = .ok (.invokestatic 69, 3) := by decide +kernel
theorem d_tb_dropAll_13 : decode b_tb_dropAll 13 = .ok (.aload_n 0, 1) := by decide +kernel
theorem d_tb_dropAll_14 : decode b_tb_dropAll 14 = .ok (.getfield 22, 3) := by decide +kernel
theorem d_tb_dropAll_17 : decode b_tb_dropAll 17 = .ok (.iconst 0, 1) := by decide +kernel
theorem d_tb_dropAll_18 : decode b_tb_dropAll 18 = .ok (.iconst 0, 1) := by decide +kernel
theorem d_tb_dropAll_19 : decode b_tb_dropAll 19 = .ok (.iastore, 1) := by decide +kernel
theorem d_tb_dropAll_20 : decode b_tb_dropAll 20 = .ok (.aload_n 0, 1) := by decide +kernel
theorem d_tb_dropAll_21 : decode b_tb_dropAll 21 = .ok (.getfield 25, 3) := by decide +kernel
theorem d_tb_dropAll_24 : decode b_tb_dropAll 24 = .ok (.iconst 0, 1) := by decide +kernel
theorem d_tb_dropAll_25 : decode b_tb_dropAll 25 = .ok (.iconst 0, 1) := by decide +kernel
theorem d_tb_dropAll_26 : decode b_tb_dropAll 26 = .ok (.iastore, 1) := by decide +kernel
theorem d_tb_dropAll_27 : decode b_tb_dropAll 27 = .ok (.aload_n 0, 1) := by decide +kernel
theorem d_tb_dropAll_28 : decode b_tb_dropAll 28 = .ok (.iconst 0, 1) := by decide +kernel
theorem d_tb_dropAll_29 : decode b_tb_dropAll 29 = .ok (.putfield 75, 3) := by decide +kernel
theorem d_tb_dropAll_32 : decode b_tb_dropAll 32 = .ok (.aload_n 0, 1) := by decide +kernel
theorem d_tb_dropAll_33 : decode b_tb_dropAll 33 = .ok (.iconst 0, 1) := by decide +kernel
theorem d_tb_dropAll_34 : decode b_tb_dropAll 34 = .ok (.putfield 78, 3) := by decide +kernel
theorem d_tb_dropAll_37 : decode b_tb_dropAll 37 = .ok (.aload_n 0, 1) := by decide +kernel
theorem d_tb_dropAll_38 : decode b_tb_dropAll 38 = .ok (.iconst 0, 1) := by decide +kernel
theorem d_tb_dropAll_39 : decode b_tb_dropAll 39 = .ok (.putfield 52, 3) := by decide +kernel
theorem d_tb_dropAll_42 : decode b_tb_dropAll 42 = .ok (.iload_n 1, 1) := by decide +kernel
theorem d_tb_dropAll_43 : decode b_tb_dropAll 43 = .ok (.ireturn, 1) := by decide +kernel
theorem d_tb_holdsKeysOf_0 : decode b_tb_holdsKeysOf 0 = .ok (.aload_n 1, 1) := by decide +kernel
theorem d_tb_holdsKeysOf_1 : decode b_tb_holdsKeysOf 1 = .ok (.getfield 25, 3) := by decide +kernel
theorem d_tb_holdsKeysOf_4 : decode b_tb_holdsKeysOf 4 = .ok (.iconst 0, 1) := by decide +kernel
theorem d_tb_holdsKeysOf_5 : decode b_tb_holdsKeysOf 5 = .ok (.iaload, 1) := by decide +kernel
theorem d_tb_holdsKeysOf_6 : decode b_tb_holdsKeysOf 6 = .ok (.istore_n 2, 1) := by decide +kernel
theorem d_tb_holdsKeysOf_7 : decode b_tb_holdsKeysOf 7 = .ok (.iconst 0, 1) := by decide +kernel
theorem d_tb_holdsKeysOf_8 : decode b_tb_holdsKeysOf 8 = .ok (.istore_n 3, 1) := by decide +kernel
theorem d_tb_holdsKeysOf_9 : decode b_tb_holdsKeysOf 9 = .ok (.iload_n 3, 1) := by decide +kernel
theorem d_tb_holdsKeysOf_10 : decode b_tb_holdsKeysOf 10 = .ok (.aload_n 1, 1) := by decide +kernel
theorem d_tb_holdsKeysOf_11 : decode b_tb_holdsKeysOf 11 = .ok (.getfield 52, 3) := by decide +kernel
theorem d_tb_holdsKeysOf_14 : decode b_tb_holdsKeysOf 14 = .ok (.if_icmp .ge 31, 3) := by decide +kernel
theorem d_tb_holdsKeysOf_17 : decode b_tb_holdsKeysOf 17 = .ok (.aload_n 0, 1) := by decide +kernel
theorem d_tb_holdsKeysOf_18 : decode b_tb_holdsKeysOf 18 = .ok (.aload_n 1, 1) := by decide +kernel
theorem d_tb_holdsKeysOf_19 : decode b_tb_holdsKeysOf 19 = .ok (.getfield 15, 3) := by decide +kernel
theorem d_tb_holdsKeysOf_22 : decode b_tb_holdsKeysOf 22 = .ok (.iload_n 2, 1) := by decide +kernel
theorem d_tb_holdsKeysOf_23 : decode b_tb_holdsKeysOf 23 = .ok (.iaload, 1) := by decide +kernel
theorem d_tb_holdsKeysOf_24 : decode b_tb_holdsKeysOf 24 = .ok (.invokevirtual 81, 3) := by decide +kernel
theorem d_tb_holdsKeysOf_27 : decode b_tb_holdsKeysOf 27 = .ok (.ifCond .ne 5, 3) := by decide +kernel
theorem d_tb_holdsKeysOf_30 : decode b_tb_holdsKeysOf 30 = .ok (.iconst 0, 1) := by decide +kernel
theorem d_tb_holdsKeysOf_31 : decode b_tb_holdsKeysOf 31 = .ok (.ireturn, 1) := by decide +kernel
theorem d_tb_holdsKeysOf_32 : decode b_tb_holdsKeysOf 32 = .ok (.aload_n 1, 1) := by decide +kernel
theorem d_tb_holdsKeysOf_33 : decode b_tb_holdsKeysOf 33 = .ok (.getfield 25, 3) := by decide +kernel
theorem d_tb_holdsKeysOf_36 : decode b_tb_holdsKeysOf 36 = .ok (.iload_n 2, 1) := by decide +kernel
theorem d_tb_holdsKeysOf_37 : decode b_tb_holdsKeysOf 37 = .ok (.iaload, 1) := by decide +kernel
theorem d_tb_holdsKeysOf_38 : decode b_tb_holdsKeysOf 38 = .ok (.istore_n 2, 1) := by decide +kernel
theorem d_tb_holdsKeysOf_39 : decode b_tb_holdsKeysOf 39 = .ok (.iinc 3 1, 3) := by decide +kernel
theorem d_tb_holdsKeysOf_42 : decode b_tb_holdsKeysOf 42 = .ok (.goto (-33), 3) := by decide +kernel
theorem d_tb_holdsKeysOf_45 : decode b_tb_holdsKeysOf 45 = .ok (.iconst 1, 1) := by decide +kernel
theorem d_tb_holdsKeysOf_46 : decode b_tb_holdsKeysOf 46 = .ok (.ireturn, 1) := by decide +kernel
theorem d_tb_storeAllOf_0 : decode b_tb_storeAllOf 0 = .ok (.aload_n 1, 1) := by decide +kernel
theorem d_tb_storeAllOf_1 : decode b_tb_storeAllOf 1 = .ok (.getfield 52, 3) := by decide +kernel
theorem d_tb_storeAllOf_4 : decode b_tb_storeAllOf 4 = .ok (.istore_n 2, 1) := by decide +kernel
theorem d_tb_storeAllOf_5 : decode b_tb_storeAllOf 5 = .ok (.aload_n 1, 1) := by decide +kernel
theorem d_tb_storeAllOf_6 : decode b_tb_storeAllOf 6 = .ok (.getfield 25, 3) := by decide +kernel
theorem d_tb_storeAllOf_9 : decode b_tb_storeAllOf 9 = .ok (.iconst 0, 1) := by decide +kernel
theorem d_tb_storeAllOf_10 : decode b_tb_storeAllOf 10 = .ok (.iaload, 1) := by decide +kernel
theorem d_tb_storeAllOf_11 : decode b_tb_storeAllOf 11 = .ok (.istore_n 3, 1) := by decide +kernel
theorem d_tb_storeAllOf_12 : decode b_tb_storeAllOf 12 = .ok (.iconst 0, 1) := by decide +kernel
theorem d_tb_storeAllOf_13 : decode b_tb_storeAllOf 13 = .ok (.istore 4, 2) := by decide +kernel
theorem d_tb_storeAllOf_15 : decode b_tb_storeAllOf 15 = .ok (.iload 4, 2) := by decide +kernel
theorem d_tb_storeAllOf_17 : decode b_tb_storeAllOf 17 = .ok (.iload_n 2, 1) := by decide +kernel
theorem d_tb_storeAllOf_18 : decode b_tb_storeAllOf 18 = .ok (.if_icmp .ge 33, 3) := by decide +kernel
theorem d_tb_storeAllOf_21 : decode b_tb_storeAllOf 21 = .ok (.aload_n 0, 1) := by decide +kernel
theorem d_tb_storeAllOf_22 : decode b_tb_storeAllOf 22 = .ok (.aload_n 1, 1) := by decide +kernel
theorem d_tb_storeAllOf_23 : decode b_tb_storeAllOf 23 = .ok (.getfield 15, 3) := by decide +kernel
theorem d_tb_storeAllOf_26 : decode b_tb_storeAllOf 26 = .ok (.iload_n 3, 1) := by decide +kernel
theorem d_tb_storeAllOf_27 : decode b_tb_storeAllOf 27 = .ok (.iaload, 1) := by decide +kernel
theorem d_tb_storeAllOf_28 : decode b_tb_storeAllOf 28 = .ok (.aload_n 1, 1) := by decide +kernel
theorem d_tb_storeAllOf_29 : decode b_tb_storeAllOf 29 = .ok (.getfield 19, 3) := by decide +kernel
theorem d_tb_storeAllOf_32 : decode b_tb_storeAllOf 32 = .ok (.iload_n 3, 1) := by decide +kernel
theorem d_tb_storeAllOf_33 : decode b_tb_storeAllOf 33 = .ok (.iaload, 1) := by decide +kernel
theorem d_tb_storeAllOf_34 : decode b_tb_storeAllOf 34 = .ok (.invokevirtual 56, 3) := by decide +kernel
theorem d_tb_storeAllOf_37 : decode b_tb_storeAllOf 37 = .ok (.pop2, 1) := by decide +kernel
theorem d_tb_storeAllOf_38 : decode b_tb_storeAllOf 38 = .ok (.aload_n 1, 1) := by decide +kernel
theorem d_tb_storeAllOf_39 : decode b_tb_storeAllOf 39 = .ok (.getfield 25, 3) := by decide +kernel
theorem d_tb_storeAllOf_42 : decode b_tb_storeAllOf 42 = .ok (.iload_n 3, 1) := by decide +kernel
theorem d_tb_storeAllOf_43 : decode b_tb_storeAllOf 43 = .ok (.iaload, 1) := by decide +kernel
theorem d_tb_storeAllOf_44 : decode b_tb_storeAllOf 44 = .ok (.istore_n 3, 1) := by decide +kernel
theorem d_tb_storeAllOf_45 : decode b_tb_storeAllOf 45 = .ok (.iinc 4 1, 3) := by decide +kernel
theorem d_tb_storeAllOf_48 : decode b_tb_storeAllOf 48 = .ok (.goto (-33), 3) := by decide +kernel
theorem d_tb_storeAllOf_51 : decode b_tb_storeAllOf 51 = .ok (.return_, 1) := by decide +kernel
theorem d_tb_slotAt_0 : decode b_tb_slotAt 0 = .ok (.iload_n 1, 1) := by decide +kernel
theorem d_tb_slotAt_1 : decode b_tb_slotAt 1 = .ok (.ifCond .lt 11, 3) := by decide +kernel
theorem d_tb_slotAt_4 : decode b_tb_slotAt 4 = .ok (.iload_n 1, 1) := by decide +kernel
theorem d_tb_slotAt_5 : decode b_tb_slotAt 5 = .ok (.aload_n 0, 1) := by decide +kernel
theorem d_tb_slotAt_6 : decode b_tb_slotAt 6 = .ok (.getfield 52, 3) := by decide +kernel
theorem d_tb_slotAt_9 : decode b_tb_slotAt 9 = .ok (.if_icmp .lt 5, 3) := by decide +kernel
theorem d_tb_slotAt_12 : decode b_tb_slotAt 12 = .ok (.iconst 0, 1) := by decide +kernel
theorem d_tb_slotAt_13 : decode b_tb_slotAt 13 = .ok (.ireturn, 1) := by decide +kernel
theorem d_tb_slotAt_14 : decode b_tb_slotAt 14 = .ok (.aload_n 0, 1) := by decide +kernel
theorem d_tb_slotAt_15 : decode b_tb_slotAt 15 = .ok (.getfield 25, 3) := by decide +kernel
theorem d_tb_slotAt_18 : decode b_tb_slotAt 18 = .ok (.iconst 0, 1) := by decide +kernel
theorem d_tb_slotAt_19 : decode b_tb_slotAt 19 = .ok (.iaload, 1) := by decide +kernel
theorem d_tb_slotAt_20 : decode b_tb_slotAt 20 = .ok (.istore_n 2, 1) := by decide +kernel
theorem d_tb_slotAt_21 : decode b_tb_slotAt 21 = .ok (.iconst 0, 1) := by decide +kernel
theorem d_tb_slotAt_22 : decode b_tb_slotAt 22 = .ok (.istore_n 3, 1) := by decide +kernel
theorem d_tb_slotAt_23 : decode b_tb_slotAt 23 = .ok (.iload_n 3, 1) := by decide +kernel
theorem d_tb_slotAt_24 : decode b_tb_slotAt 24 = .ok (.iload_n 1, 1) := by decide +kernel
theorem d_tb_slotAt_25 : decode b_tb_slotAt 25 = .ok (.if_icmp .ge 16, 3) := by decide +kernel
theorem d_tb_slotAt_28 : decode b_tb_slotAt 28 = .ok (.aload_n 0, 1) := by decide +kernel
theorem d_tb_slotAt_29 : decode b_tb_slotAt 29 = .ok (.getfield 25, 3) := by decide +kernel
theorem d_tb_slotAt_32 : decode b_tb_slotAt 32 = .ok (.iload_n 2, 1) := by decide +kernel
theorem d_tb_slotAt_33 : decode b_tb_slotAt 33 = .ok (.iaload, 1) := by decide +kernel
theorem d_tb_slotAt_34 : decode b_tb_slotAt 34 = .ok (.istore_n 2, 1) := by decide +kernel
theorem d_tb_slotAt_35 : decode b_tb_slotAt 35 = .ok (.iinc 3 1, 3) := by decide +kernel
theorem d_tb_slotAt_38 : decode b_tb_slotAt 38 = .ok (.goto (-15), 3) := by decide +kernel
theorem d_tb_slotAt_41 : decode b_tb_slotAt 41 = .ok (.iload_n 2, 1) := by decide +kernel
theorem d_tb_slotAt_42 : decode b_tb_slotAt 42 = .ok (.ireturn, 1) := by decide +kernel
theorem d_tb_total_0 : decode b_tb_total 0 = .ok (.lconst 0, 1) := by decide +kernel
theorem d_tb_total_1 : decode b_tb_total 1 = .ok (.lstore_n 1, 1) := by decide +kernel
theorem d_tb_total_2 : decode b_tb_total 2 = .ok (.aload_n 0, 1) := by decide +kernel
theorem d_tb_total_3 : decode b_tb_total 3 = .ok (.getfield 25, 3) := by decide +kernel
theorem d_tb_total_6 : decode b_tb_total 6 = .ok (.iconst 0, 1) := by decide +kernel
theorem d_tb_total_7 : decode b_tb_total 7 = .ok (.iaload, 1) := by decide +kernel
theorem d_tb_total_8 : decode b_tb_total 8 = .ok (.istore_n 3, 1) := by decide +kernel
theorem d_tb_total_9 : decode b_tb_total 9 = .ok (.iconst 0, 1) := by decide +kernel
theorem d_tb_total_10 : decode b_tb_total 10 = .ok (.istore 4, 2) := by decide +kernel
theorem d_tb_total_12 : decode b_tb_total 12 = .ok (.iload 4, 2) := by decide +kernel
theorem d_tb_total_14 : decode b_tb_total 14 = .ok (.aload_n 0, 1) := by decide +kernel
theorem d_tb_total_15 : decode b_tb_total 15 = .ok (.getfield 52, 3) := by decide +kernel
theorem d_tb_total_18 : decode b_tb_total 18 = .ok (.if_icmp .ge 38, 3) := by decide +kernel
theorem d_tb_total_21 : decode b_tb_total 21 = .ok (.lload_n 1, 1) := by decide +kernel
theorem d_tb_total_22 : decode b_tb_total 22 = .ok (.ldc2_w 85, 3) := by decide +kernel
theorem d_tb_total_25 : decode b_tb_total 25 = .ok (.aload_n 0, 1) := by decide +kernel
theorem d_tb_total_26 : decode b_tb_total 26 = .ok (.getfield 15, 3) := by decide +kernel
theorem d_tb_total_29 : decode b_tb_total 29 = .ok (.iload_n 3, 1) := by decide +kernel
theorem d_tb_total_30 : decode b_tb_total 30 = .ok (.iaload, 1) := by decide +kernel
theorem d_tb_total_31 : decode b_tb_total 31 = .ok (.i2l, 1) := by decide +kernel
theorem d_tb_total_32 : decode b_tb_total 32 = .ok (.lmul, 1) := by decide +kernel
theorem d_tb_total_33 : decode b_tb_total 33 = .ok (.aload_n 0, 1) := by decide +kernel
theorem d_tb_total_34 : decode b_tb_total 34 = .ok (.getfield 19, 3) := by decide +kernel
theorem d_tb_total_37 : decode b_tb_total 37 = .ok (.iload_n 3, 1) := by decide +kernel
theorem d_tb_total_38 : decode b_tb_total 38 = .ok (.iaload, 1) := by decide +kernel
theorem d_tb_total_39 : decode b_tb_total 39 = .ok (.i2l, 1) := by decide +kernel
theorem d_tb_total_40 : decode b_tb_total 40 = .ok (.ladd, 1) := by decide +kernel
theorem d_tb_total_41 : decode b_tb_total 41 = .ok (.ladd, 1) := by decide +kernel
theorem d_tb_total_42 : decode b_tb_total 42 = .ok (.lstore_n 1, 1) := by decide +kernel
theorem d_tb_total_43 : decode b_tb_total 43 = .ok (.aload_n 0, 1) := by decide +kernel
theorem d_tb_total_44 : decode b_tb_total 44 = .ok (.getfield 25, 3) := by decide +kernel
theorem d_tb_total_47 : decode b_tb_total 47 = .ok (.iload_n 3, 1) := by decide +kernel
theorem d_tb_total_48 : decode b_tb_total 48 = .ok (.iaload, 1) := by decide +kernel
theorem d_tb_total_49 : decode b_tb_total 49 = .ok (.istore_n 3, 1) := by decide +kernel
theorem d_tb_total_50 : decode b_tb_total 50 = .ok (.iinc 4 1, 3) := by decide +kernel
theorem d_tb_total_53 : decode b_tb_total 53 = .ok (.goto (-41), 3) := by decide +kernel
theorem d_tb_total_56 : decode b_tb_total 56 = .ok (.lload_n 1, 1) := by decide +kernel
theorem d_tb_total_57 : decode b_tb_total 57 = .ok (.lreturn, 1) := by decide +kernel
theorem d_tb_dropByRest_0 : decode b_tb_dropByRest 0 = .ok (.aload_n 0, 1) := by decide +kernel
theorem d_tb_dropByRest_1 : decode b_tb_dropByRest 1 = .ok (.getfield 52, 3) := by decide +kernel
theorem d_tb_dropByRest_4 : decode b_tb_dropByRest 4 = .ok (.istore_n 3, 1) := by decide +kernel
theorem d_tb_dropByRest_5 : decode b_tb_dropByRest 5 = .ok (.aload_n 0, 1) := by decide +kernel
theorem d_tb_dropByRest_6 : decode b_tb_dropByRest 6 = .ok (.getfield 25, 3) := by decide +kernel
theorem d_tb_dropByRest_9 : decode b_tb_dropByRest 9 = .ok (.iconst 0, 1) := by decide +kernel
theorem d_tb_dropByRest_10 : decode b_tb_dropByRest 10 = .ok (.iaload, 1) := by decide +kernel
theorem d_tb_dropByRest_11 : decode b_tb_dropByRest 11 = .ok (.istore 4, 2) := by decide +kernel
theorem d_tb_dropByRest_13 : decode b_tb_dropByRest 13 = .ok (.iconst 0, 1) := by decide +kernel
theorem d_tb_dropByRest_14 : decode b_tb_dropByRest 14 = .ok (.istore 5, 2) := by decide +kernel
theorem d_tb_dropByRest_16 : decode b_tb_dropByRest 16 = .ok (.iload 5, 2) := by decide +kernel
theorem d_tb_dropByRest_18 : decode b_tb_dropByRest 18 = .ok (.iload_n 3, 1) := by decide +kernel
theorem d_tb_dropByRest_19 : decode b_tb_dropByRest 19 = .ok (.if_icmp .ge 43, 3) := by decide +kernel
theorem d_tb_dropByRest_22 : decode b_tb_dropByRest 22 = .ok (.aload_n 0, 1) := by decide +kernel
theorem d_tb_dropByRest_23 : decode b_tb_dropByRest 23 = .ok (.getfield 25, 3) := by decide +kernel
theorem d_tb_dropByRest_26 : decode b_tb_dropByRest 26 = .ok (.iload 4, 2) := by decide +kernel
theorem d_tb_dropByRest_28 : decode b_tb_dropByRest 28 = .ok (.iaload, 1) := by decide +kernel
theorem d_tb_dropByRest_29 : decode b_tb_dropByRest 29 = .ok (.istore 6, 2) := by decide +kernel
theorem d_tb_dropByRest_31 : decode b_tb_dropByRest 31 = .ok (.aload_n 0, 1) := by decide +kernel
theorem d_tb_dropByRest_32 : decode b_tb_dropByRest 32 = .ok (.getfield 15, 3) := by decide +kernel
theorem d_tb_dropByRest_35 : decode b_tb_dropByRest 35 = .ok (.iload 4, 2) := by decide +kernel
theorem d_tb_dropByRest_37 : decode b_tb_dropByRest 37 = .ok (.iaload, 1) := by decide +kernel
theorem d_tb_dropByRest_38 : decode b_tb_dropByRest 38 = .ok (.iload_n 1, 1) := by decide +kernel
theorem d_tb_dropByRest_39 : decode b_tb_dropByRest 39 = .ok (.invokestatic 63, 3) := by decide +kernel
theorem d_tb_dropByRest_42 : decode b_tb_dropByRest 42 = .ok (.iload_n 2, 1) := by decide +kernel
theorem d_tb_dropByRest_43 : decode b_tb_dropByRest 43 = .ok (.if_icmp .ne 9, 3) := by decide +kernel
theorem d_tb_dropByRest_46 : decode b_tb_dropByRest 46 = .ok (.aload_n 0, 1) := by decide +kernel
theorem d_tb_dropByRest_47 : decode b_tb_dropByRest 47 = .ok (.iload 4, 2) := by decide +kernel
theorem d_tb_dropByRest_49 : decode b_tb_dropByRest 49 = .ok (.invokevirtual 60, 3) := by decide +kernel
theorem d_tb_dropByRest_52 : decode b_tb_dropByRest 52 = .ok (.iload 6, 2) := by decide +kernel
theorem d_tb_dropByRest_54 : decode b_tb_dropByRest 54 = .ok (.istore 4, 2) := by decide +kernel
theorem d_tb_dropByRest_56 : decode b_tb_dropByRest 56 = .ok (.iinc 5 1, 3) := by decide +kernel
theorem d_tb_dropByRest_59 : decode b_tb_dropByRest 59 = .ok (.goto (-43), 3) := by decide +kernel
theorem d_tb_dropByRest_62 : decode b_tb_dropByRest 62 = .ok (.iload_n 3, 1) := by decide +kernel
theorem d_tb_dropByRest_63 : decode b_tb_dropByRest 63 = .ok (.aload_n 0, 1) := by decide +kernel
theorem d_tb_dropByRest_64 : decode b_tb_dropByRest 64 = .ok (.getfield 52, 3) := by decide +kernel
theorem d_tb_dropByRest_67 : decode b_tb_dropByRest 67 = .ok (.isub, 1) := by decide +kernel
theorem d_tb_dropByRest_68 : decode b_tb_dropByRest 68 = .ok (.ireturn, 1) := by decide +kernel
theorem d_tb_increase_0 : decode b_tb_increase 0 = .ok (.aload_n 0, 1) := by decide +kernel
theorem d_tb_increase_1 : decode b_tb_increase 1 = .ok (.getfield 25, 3) := by decide +kernel
theorem d_tb_increase_4 : decode b_tb_increase 4 = .ok (.iconst 0, 1) := by decide +kernel
theorem d_tb_increase_5 : decode b_tb_increase 5 = .ok (.iaload, 1) := by decide +kernel
theorem d_tb_increase_6 : decode b_tb_increase 6 = .ok (.istore_n 2, 1) := by decide +kernel
theorem d_tb_increase_7 : decode b_tb_increase 7 = .ok (.iconst 0, 1) := by decide +kernel
theorem d_tb_increase_8 : decode b_tb_increase 8 = .ok (.istore_n 3, 1) := by decide +kernel
theorem d_tb_increase_9 : decode b_tb_increase 9 = .ok (.iload_n 3, 1) := by decide +kernel
theorem d_tb_increase_10 : decode b_tb_increase 10 = .ok (.aload_n 0, 1) := by decide +kernel
theorem d_tb_increase_11 : decode b_tb_increase 11 = .ok (.getfield 52, 3) := by decide +kernel
theorem d_tb_increase_14 : decode b_tb_increase 14 = .ok (.if_icmp .ge 26, 3) := by decide +kernel
theorem d_tb_increase_17 : decode b_tb_increase 17 = .ok (.aload_n 0, 1) := by decide +kernel
theorem d_tb_increase_18 : decode b_tb_increase 18 = .ok (.getfield 19, 3) := by decide +kernel
theorem d_tb_increase_21 : decode b_tb_increase 21 = .ok (.iload_n 2, 1) := by decide +kernel
theorem d_tb_increase_22 : decode b_tb_increase 22 = .ok (.dup2, 1) := by decide +kernel
theorem d_tb_increase_23 : decode b_tb_increase 23 = .ok (.iaload, 1) := by decide +kernel
theorem d_tb_increase_24 : decode b_tb_increase 24 = .ok (.iload_n 1, 1) := by decide +kernel
theorem d_tb_increase_25 : decode b_tb_increase 25 = .ok (.iadd, 1) := by decide +kernel
theorem d_tb_increase_26 : decode b_tb_increase 26 = .ok (.iastore, 1) := by decide +kernel
theorem d_tb_increase_27 : decode b_tb_increase 27 = .ok (.aload_n 0, 1) := by decide +kernel
theorem d_tb_increase_28 : decode b_tb_increase 28 = .ok (.getfield 25, 3) := by decide +kernel
theorem d_tb_increase_31 : decode b_tb_increase 31 = .ok (.iload_n 2, 1) := by decide +kernel
theorem d_tb_increase_32 : decode b_tb_increase 32 = .ok (.iaload, 1) := by decide +kernel
theorem d_tb_increase_33 : decode b_tb_increase 33 = .ok (.istore_n 2, 1) := by decide +kernel
theorem d_tb_increase_34 : decode b_tb_increase 34 = .ok (.iinc 3 1, 3) := by decide +kernel
theorem d_tb_increase_37 : decode b_tb_increase 37 = .ok (.goto (-28), 3) := by decide +kernel
theorem d_tb_increase_40 : decode b_tb_increase 40 = .ok (.aload_n 0, 1) := by decide +kernel
theorem d_tb_increase_41 : decode b_tb_increase 41 = .ok (.getfield 52, 3) := by decide +kernel
theorem d_tb_increase_44 : decode b_tb_increase 44 = .ok (.ireturn, 1) := by decide +kernel
theorem d_tb_matches_0 : decode b_tb_matches 0 = .ok (.aload_n 0, 1) := by decide +kernel
theorem d_tb_matches_1 : decode b_tb_matches 1 = .ok (.getfield 52, 3) := by decide +kernel
theorem d_tb_matches_4 : decode b_tb_matches 4 = .ok (.aload_n 1, 1) := by decide +kernel
theorem d_tb_matches_5 : decode b_tb_matches 5 = .ok (.getfield 52, 3) := by decide +kernel
theorem d_tb_matches_8 : decode b_tb_matches 8 = .ok (.if_icmp .eq 5, 3) := by decide +kernel
theorem d_tb_matches_11 : decode b_tb_matches 11 = .ok (.iconst 0, 1) := by decide +kernel
theorem d_tb_matches_12 : decode b_tb_matches 12 = .ok (.ireturn, 1) := by decide +kernel
theorem d_tb_matches_13 : decode b_tb_matches 13 = .ok (.aload_n 0, 1) := by decide +kernel
theorem d_tb_matches_14 : decode b_tb_matches 14 = .ok (.getfield 25, 3) := by decide +kernel
theorem d_tb_matches_17 : decode b_tb_matches 17 = .ok (.iconst 0, 1) := by decide +kernel
theorem d_tb_matches_18 : decode b_tb_matches 18 = .ok (.iaload, 1) := by decide +kernel
theorem d_tb_matches_19 : decode b_tb_matches 19 = .ok (.istore_n 2, 1) := by decide +kernel
theorem d_tb_matches_20 : decode b_tb_matches 20 = .ok (.iconst 0, 1) := by decide +kernel
theorem d_tb_matches_21 : decode b_tb_matches 21 = .ok (.istore_n 3, 1) := by decide +kernel
theorem d_tb_matches_22 : decode b_tb_matches 22 = .ok (.iload_n 3, 1) := by decide +kernel
theorem d_tb_matches_23 : decode b_tb_matches 23 = .ok (.aload_n 0, 1) := by decide +kernel
theorem d_tb_matches_24 : decode b_tb_matches 24 = .ok (.getfield 52, 3) := by decide +kernel
theorem d_tb_matches_27 : decode b_tb_matches 27 = .ok (.if_icmp .ge 51, 3) := by decide +kernel
theorem d_tb_matches_30 : decode b_tb_matches 30 = .ok (.aload_n 1, 1) := by decide +kernel
theorem d_tb_matches_31 : decode b_tb_matches 31 = .ok (.aload_n 0, 1) := by decide +kernel
theorem d_tb_matches_32 : decode b_tb_matches 32 = .ok (.getfield 15, 3) := by decide +kernel
theorem d_tb_matches_35 : decode b_tb_matches 35 = .ok (.iload_n 2, 1) := by decide +kernel
theorem d_tb_matches_36 : decode b_tb_matches 36 = .ok (.iaload, 1) := by decide +kernel
theorem d_tb_matches_37 : decode b_tb_matches 37 = .ok (.invokevirtual 34, 3) := by decide +kernel
theorem d_tb_matches_40 : decode b_tb_matches 40 = .ok (.istore 4, 2) := by decide +kernel
theorem d_tb_matches_42 : decode b_tb_matches 42 = .ok (.iload 4, 2) := by decide +kernel
theorem d_tb_matches_44 : decode b_tb_matches 44 = .ok (.ifCond .eq 19, 3) := by decide +kernel
theorem d_tb_matches_47 : decode b_tb_matches 47 = .ok (.aload_n 1, 1) := by decide +kernel
theorem d_tb_matches_48 : decode b_tb_matches 48 = .ok (.getfield 19, 3) := by decide +kernel
theorem d_tb_matches_51 : decode b_tb_matches 51 = .ok (.iload 4, 2) := by decide +kernel
theorem d_tb_matches_53 : decode b_tb_matches 53 = .ok (.iaload, 1) := by decide +kernel
theorem d_tb_matches_54 : decode b_tb_matches 54 = .ok (.aload_n 0, 1) := by decide +kernel
theorem d_tb_matches_55 : decode b_tb_matches 55 = .ok (.getfield 19, 3) := by decide +kernel
theorem d_tb_matches_58 : decode b_tb_matches 58 = .ok (.iload_n 2, 1) := by decide +kernel
theorem d_tb_matches_59 : decode b_tb_matches 59 = .ok (.iaload, 1) := by decide +kernel
theorem d_tb_matches_60 : decode b_tb_matches 60 = .ok (.if_icmp .eq 5, 3) := by decide +kernel
theorem d_tb_matches_63 : decode b_tb_matches 63 = .ok (.iconst 0, 1) := by decide +kernel
theorem d_tb_matches_64 : decode b_tb_matches 64 = .ok (.ireturn, 1) := by decide +kernel
theorem d_tb_matches_65 : decode b_tb_matches 65 = .ok (.aload_n 0, 1) := by decide +kernel
theorem d_tb_matches_66 : decode b_tb_matches 66 = .ok (.getfield 25, 3) := by decide +kernel
theorem d_tb_matches_69 : decode b_tb_matches 69 = .ok (.iload_n 2, 1) := by decide +kernel
theorem d_tb_matches_70 : decode b_tb_matches 70 = .ok (.iaload, 1) := by decide +kernel
theorem d_tb_matches_71 : decode b_tb_matches 71 = .ok (.istore_n 2, 1) := by decide +kernel
theorem d_tb_matches_72 : decode b_tb_matches 72 = .ok (.iinc 3 1, 3) := by decide +kernel
theorem d_tb_matches_75 : decode b_tb_matches 75 = .ok (.goto (-53), 3) := by decide +kernel
theorem d_tb_matches_78 : decode b_tb_matches 78 = .ok (.iconst 1, 1) := by decide +kernel
theorem d_tb_matches_79 : decode b_tb_matches 79 = .ok (.ireturn, 1) := by decide +kernel
