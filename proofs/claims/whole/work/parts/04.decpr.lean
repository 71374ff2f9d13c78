theorem d_pr_init_0 : decode b_pr_init 0 = .ok (.aload_n 0, 1) := by decide +kernel
theorem d_pr_init_1 : decode b_pr_init 1 = .ok (.invokespecial 1, 3) := by decide +kernel
theorem d_pr_init_4 : decode b_pr_init 4 = .ok (.aload_n 0, 1) := by decide +kernel
theorem d_pr_init_5 : decode b_pr_init 5 = .ok (.bipush 16, 2) := by decide +kernel
theorem d_pr_init_7 : decode b_pr_init 7 = .ok (.newarray .int, 2) := by decide +kernel
theorem d_pr_init_9 : decode b_pr_init 9 = .ok (.putfield 7, 3) := by decide +kernel
theorem d_pr_init_12 : decode b_pr_init 12 = .ok (.aload_n 0, 1) := by decide +kernel
theorem d_pr_init_13 : decode b_pr_init 13 = .ok (.bipush 16, 2) := by decide +kernel
theorem d_pr_init_15 : decode b_pr_init 15 = .ok (.newarray .int, 2) := by decide +kernel
theorem d_pr_init_17 : decode b_pr_init 17 = .ok (.putfield 13, 3) := by decide +kernel
theorem d_pr_init_20 : decode b_pr_init 20 = .ok (.aload_n 0, 1) := by decide +kernel
theorem d_pr_init_21 : decode b_pr_init 21 = .ok (.bipush 16, 2) := by decide +kernel
theorem d_pr_init_23 : decode b_pr_init 23 = .ok (.newarray .int, 2) := by decide +kernel
theorem d_pr_init_25 : decode b_pr_init 25 = .ok (.putfield 16, 3) := by decide +kernel
theorem d_pr_init_28 : decode b_pr_init 28 = .ok (.aload_n 0, 1) := by decide +kernel
theorem d_pr_init_29 : decode b_pr_init 29 = .ok (.bipush 16, 2) := by decide +kernel
theorem d_pr_init_31 : decode b_pr_init 31 = .ok (.newarray .int, 2) := by decide +kernel
theorem d_pr_init_33 : decode b_pr_init 33 = .ok (.putfield 19, 3) := by decide +kernel
theorem d_pr_init_36 : decode b_pr_init 36 = .ok (.aload_n 0, 1) := by decide +kernel
theorem d_pr_init_37 : decode b_pr_init 37 = .ok (.bipush 16, 2) := by decide +kernel
theorem d_pr_init_39 : decode b_pr_init 39 = .ok (.newarray .int, 2) := by decide +kernel
theorem d_pr_init_41 : decode b_pr_init 41 = .ok (.putfield 22, 3) := by decide +kernel
theorem d_pr_init_44 : decode b_pr_init 44 = .ok (.aload_n 0, 1) := by decide +kernel
theorem d_pr_init_45 : decode b_pr_init 45 = .ok (.iconst (-1), 1) := by decide +kernel
theorem d_pr_init_46 : decode b_pr_init 46 = .ok (.putfield 25, 3) := by decide +kernel
theorem d_pr_init_49 : decode b_pr_init 49 = .ok (.aload_n 0, 1) := by decide +kernel
theorem d_pr_init_50 : decode b_pr_init 50 = .ok (.iconst (-1), 1) := by decide +kernel
theorem d_pr_init_51 : decode b_pr_init 51 = .ok (.putfield 29, 3) := by decide +kernel
theorem d_pr_init_54 : decode b_pr_init 54 = .ok (.aload_n 0, 1) := by decide +kernel
theorem d_pr_init_55 : decode b_pr_init 55 = .ok (.iconst (-1), 1) := by decide +kernel
theorem d_pr_init_56 : decode b_pr_init 56 = .ok (.putfield 32, 3) := by decide +kernel
theorem d_pr_init_59 : decode b_pr_init 59 = .ok (.return_, 1) := by decide +kernel
theorem d_pr_find_0 : decode b_pr_find 0 = .ok (.aload_n 0, 1) := by decide +kernel
theorem d_pr_find_1 : decode b_pr_find 1 = .ok (.iload_n 1, 1) := by decide +kernel
theorem d_pr_find_2 : decode b_pr_find 2 = .ok (.invokevirtual 38, 3) := by decide +kernel
theorem d_pr_find_5 : decode b_pr_find 5 = .ok (.istore_n 2, 1) := by decide +kernel
theorem d_pr_find_6 : decode b_pr_find 6 = .ok (.iload_n 2, 1) := by decide +kernel
theorem d_pr_find_7 : decode b_pr_find 7 = .ok (.aload_n 0, 1) := by decide +kernel
theorem d_pr_find_8 : decode b_pr_find 8 = .ok (.getfield 35, 3) := by decide +kernel
theorem d_pr_find_11 : decode b_pr_find 11 = .ok (.if_icmp .ge 27, 3) := by decide +kernel
theorem d_pr_find_14 : decode b_pr_find 14 = .ok (.aload_n 0, 1) := by decide +kernel
theorem d_pr_find_15 : decode b_pr_find 15 = .ok (.getfield 13, 3) := by decide +kernel
theorem d_pr_find_18 : decode b_pr_find 18 = .ok (.aload_n 0, 1) := by decide +kernel
theorem d_pr_find_19 : decode b_pr_find 19 = .ok (.getfield 7, 3) := by decide +kernel
theorem d_pr_find_22 : decode b_pr_find 22 = .ok (.iload_n 2, 1) := by decide +kernel
theorem d_pr_find_23 : decode b_pr_find 23 = .ok (.iaload, 1) := by decide +kernel
theorem d_pr_find_24 : decode b_pr_find 24 = .ok (.iaload, 1) := by decide +kernel
theorem d_pr_find_25 : decode b_pr_find 25 = .ok (.iload_n 1, 1) := by decide +kernel
theorem d_pr_find_26 : decode b_pr_find 26 = .ok (.if_icmp .ne 12, 3) := by decide +kernel
theorem d_pr_find_29 : decode b_pr_find 29 = .ok (.aload_n 0, 1) := by decide +kernel
theorem d_pr_find_30 : decode b_pr_find 30 = .ok (.getfield 7, 3) := by decide +kernel
theorem d_pr_find_33 : decode b_pr_find 33 = .ok (.iload_n 2, 1) := by decide +kernel
theorem d_pr_find_34 : decode b_pr_find 34 = .ok (.iaload, 1) := by decide +kernel
theorem d_pr_find_35 : decode b_pr_find 35 = .ok (.goto 4, 3) := by decide +kernel
theorem d_pr_find_38 : decode b_pr_find 38 = .ok (.iconst (-1), 1) := by decide +kernel
theorem d_pr_find_39 : decode b_pr_find 39 = .ok (.ireturn, 1) := by decide +kernel
theorem d_pr_rankOf_0 : decode b_pr_rankOf 0 = .ok (.iconst 0, 1) := by decide +kernel
theorem d_pr_rankOf_1 : decode b_pr_rankOf 1 = .ok (.istore_n 2, 1) := by decide +kernel
theorem d_pr_rankOf_2 : decode b_pr_rankOf 2 = .ok (.aload_n 0, 1) := by decide +kernel
theorem d_pr_rankOf_3 : decode b_pr_rankOf 3 = .ok (.getfield 35, 3) := by decide +kernel
theorem d_pr_rankOf_6 : decode b_pr_rankOf 6 = .ok (.istore_n 3, 1) := by decide +kernel
theorem d_pr_rankOf_7 : decode b_pr_rankOf 7 = .ok (.iload_n 2, 1) := by decide +kernel
theorem d_pr_rankOf_8 : decode b_pr_rankOf 8 = .ok (.iload_n 3, 1) := by decide +kernel
theorem d_pr_rankOf_9 : decode b_pr_rankOf 9 = .ok (.if_icmp .ge 40, 3) := by decide +kernel
theorem d_pr_rankOf_12 : decode b_pr_rankOf 12 = .ok (.iload_n 2, 1) := by decide +kernel
theorem d_pr_rankOf_13 : decode b_pr_rankOf 13 = .ok (.iload_n 3, 1) := by decide +kernel
theorem d_pr_rankOf_14 : decode b_pr_rankOf 14 = .ok (.iadd, 1) := by decide +kernel
theorem d_pr_rankOf_15 : decode b_pr_rankOf 15 = .ok (.iconst 2, 1) := by decide +kernel
theorem d_pr_rankOf_16 : decode b_pr_rankOf 16 = .ok (.idiv, 1) := by decide +kernel
theorem d_pr_rankOf_17 : decode b_pr_rankOf 17 = .ok (.istore 4, 2) := by decide +kernel
theorem d_pr_rankOf_19 : decode b_pr_rankOf 19 = .ok (.aload_n 0, 1) := by decide +kernel
theorem d_pr_rankOf_20 : decode b_pr_rankOf 20 = .ok (.getfield 13, 3) := by decide +kernel
theorem d_pr_rankOf_23 : decode b_pr_rankOf 23 = .ok (.aload_n 0, 1) := by decide +kernel
theorem d_pr_rankOf_24 : decode b_pr_rankOf 24 = .ok (.getfield 7, 3) := by decide +kernel
theorem d_pr_rankOf_27 : decode b_pr_rankOf 27 = .ok (.iload 4, 2) := by decide +kernel
theorem d_pr_rankOf_29 : decode b_pr_rankOf 29 = .ok (.iaload, 1) := by decide +kernel
theorem d_pr_rankOf_30 : decode b_pr_rankOf 30 = .ok (.iaload, 1) := by decide +kernel
theorem d_pr_rankOf_31 : decode b_pr_rankOf 31 = .ok (.iload_n 1, 1) := by decide +kernel
theorem d_pr_rankOf_32 : decode b_pr_rankOf 32 = .ok (.if_icmp .ge 11, 3) := by decide +kernel
theorem d_pr_rankOf_35 : decode b_pr_rankOf 35 = .ok (.iload 4, 2) := by decide +kernel
theorem d_pr_rankOf_37 : decode b_pr_rankOf 37 = .ok (.iconst 1, 1) := by decide +kernel
theorem d_pr_rankOf_38 : decode b_pr_rankOf 38 = .ok (.iadd, 1) := by decide +kernel
theorem d_pr_rankOf_39 : decode b_pr_rankOf 39 = .ok (.istore_n 2, 1) := by decide +kernel
theorem d_pr_rankOf_40 : decode b_pr_rankOf 40 = .ok (.goto 6, 3) := by decide +kernel
theorem d_pr_rankOf_43 : decode b_pr_rankOf 43 = .ok (.iload 4, 2) := by decide +kernel
theorem d_pr_rankOf_45 : decode b_pr_rankOf 45 = .ok (.istore_n 3, 1) := by decide +kernel
theorem d_pr_rankOf_46 : decode b_pr_rankOf 46 = .ok (.goto (-39), 3) := by decide +kernel
theorem d_pr_rankOf_49 : decode b_pr_rankOf 49 = .ok (.iload_n 2, 1) := by decide +kernel
theorem d_pr_rankOf_50 : decode b_pr_rankOf 50 = .ok (.ireturn, 1) := by decide +kernel
theorem d_pr_insert_0 : decode b_pr_insert 0 = .ok (.aload_n 0, 1) := by decide +kernel
theorem d_pr_insert_1 : decode b_pr_insert 1 = .ok (.getfield 25, 3) := by decide +kernel
theorem d_pr_insert_4 : decode b_pr_insert 4 = .ok (.istore_n 3, 1) := by decide +kernel
theorem d_pr_insert_5 : decode b_pr_insert 5 = .ok (.iload_n 3, 1) := by decide +kernel
theorem d_pr_insert_6 : decode b_pr_insert 6 = .ok (.ifCond .lt 16, 3) := by decide +kernel
theorem d_pr_insert_9 : decode b_pr_insert 9 = .ok (.aload_n 0, 1) := by decide +kernel
theorem d_pr_insert_10 : decode b_pr_insert 10 = .ok (.aload_n 0, 1) := by decide +kernel
theorem d_pr_insert_11 : decode b_pr_insert 11 = .ok (.getfield 22, 3) := by decide +kernel
theorem d_pr_insert_14 : decode b_pr_insert 14 = .ok (.iload_n 3, 1) := by decide +kernel
theorem d_pr_insert_15 : decode b_pr_insert 15 = .ok (.iaload, 1) := by decide +kernel
theorem d_pr_insert_16 : decode b_pr_insert 16 = .ok (.putfield 25, 3) := by decide +kernel
theorem d_pr_insert_19 : decode b_pr_insert 19 = .ok (.goto 34, 3) := by decide +kernel
theorem d_pr_insert_22 : decode b_pr_insert 22 = .ok (.aload_n 0, 1) := by decide +kernel
theorem d_pr_insert_23 : decode b_pr_insert 23 = .ok (.getfield 42, 3) := by decide +kernel
theorem d_pr_insert_26 : decode b_pr_insert 26 = .ok (.aload_n 0, 1) := by decide +kernel
theorem d_pr_insert_27 : decode b_pr_insert 27 = .ok (.getfield 13, 3) := by decide +kernel
theorem d_pr_insert_30 : decode b_pr_insert 30 = .ok (.arraylength, 1) := by decide +kernel
theorem d_pr_insert_31 : decode b_pr_insert 31 = .ok (.if_icmp .ne 7, 3) := by decide +kernel
theorem d_pr_insert_34 : decode b_pr_insert 34 = .ok (.aload_n 0, 1) := by decide +kernel
theorem d_pr_insert_35 : decode b_pr_insert 35 = .ok (.invokevirtual 51, 3) := by decide +kernel
theorem d_pr_insert_38 : decode b_pr_insert 38 = .ok (.aload_n 0, 1) := by decide +kernel
theorem d_pr_insert_39 : decode b_pr_insert 39 = .ok (.getfield 42, 3) := by decide +kernel
theorem d_pr_insert_42 : decode b_pr_insert 42 = .ok (.istore_n 3, 1) := by decide +kernel
theorem d_pr_insert_43 : decode b_pr_insert 43 = .ok (.aload_n 0, 1) := by decide +kernel
theorem d_pr_insert_44 : decode b_pr_insert 44 = .ok (.dup, 1) := by decide +kernel
theorem d_pr_insert_45 : decode b_pr_insert 45 = .ok (.getfield 42, 3) := by decide +kernel
theorem d_pr_insert_48 : decode b_pr_insert 48 = .ok (.iconst 1, 1) := by decide +kernel
theorem d_pr_insert_49 : decode b_pr_insert 49 = .ok (.iadd, 1) := by decide +kernel
theorem d_pr_insert_50 : decode b_pr_insert 50 = .ok (.putfield 42, 3) := by decide +kernel
theorem d_pr_insert_53 : decode b_pr_insert 53 = .ok (.aload_n 0, 1) := by decide +kernel
theorem d_pr_insert_54 : decode b_pr_insert 54 = .ok (.getfield 13, 3) := by decide +kernel
theorem d_pr_insert_57 : decode b_pr_insert 57 = .ok (.iload_n 3, 1) := by decide +kernel
theorem d_pr_insert_58 : decode b_pr_insert 58 = .ok (.iload_n 1, 1) := by decide +kernel
theorem d_pr_insert_59 : decode b_pr_insert 59 = .ok (.iastore, 1) := by decide +kernel
theorem d_pr_insert_60 : decode b_pr_insert 60 = .ok (.aload_n 0, 1) := by decide +kernel
theorem d_pr_insert_61 : decode b_pr_insert 61 = .ok (.getfield 16, 3) := by decide +kernel
theorem d_pr_insert_64 : decode b_pr_insert 64 = .ok (.iload_n 3, 1) := by decide +kernel
theorem d_pr_insert_65 : decode b_pr_insert 65 = .ok (.iload_n 2, 1) := by decide +kernel
theorem d_pr_insert_66 : decode b_pr_insert 66 = .ok (.iastore, 1) := by decide +kernel
theorem d_pr_insert_67 : decode b_pr_insert 67 = .ok (.aload_n 0, 1) := by decide +kernel
theorem d_pr_insert_68 : decode b_pr_insert 68 = .ok (.iload_n 1, 1) := by decide +kernel
theorem d_pr_insert_69 : decode b_pr_insert 69 = .ok (.invokevirtual 38, 3) := by decide +kernel
theorem d_pr_insert_72 : decode b_pr_insert 72 = .ok (.istore 4, 2) := by decide +kernel
theorem d_pr_insert_74 : decode b_pr_insert 74 = .ok (.aload_n 0, 1) := by decide +kernel
theorem d_pr_insert_75 : decode b_pr_insert 75 = .ok (.getfield 7, 3) := by decide +kernel
theorem d_pr_insert_78 : decode b_pr_insert 78 = .ok (.iload 4, 2) := by decide +kernel
theorem d_pr_insert_80 : decode b_pr_insert 80 = .ok (.aload_n 0, 1) := by decide +kernel
theorem d_pr_insert_81 : decode b_pr_insert 81 = .ok (.getfield 7, 3) := by decide +kernel
theorem d_pr_insert_84 : decode b_pr_insert 84 = .ok (.iload 4, 2) := by decide +kernel
theorem d_pr_insert_86 : decode b_pr_insert 86 = .ok (.iconst 1, 1) := by decide +kernel
theorem d_pr_insert_87 : decode b_pr_insert 87 = .ok (.iadd, 1) := by decide +kernel
theorem d_pr_insert_88 : decode b_pr_insert 88 = .ok (.aload_n 0, 1) := by decide +kernel
theorem d_pr_insert_89 : decode b_pr_insert 89 = .ok (.getfield 35, 3) := by decide +kernel
theorem d_pr_insert_92 : decode b_pr_insert 92 = .ok (.iload 4, 2) := by decide +kernel
theorem d_pr_insert_94 : decode b_pr_insert 94 = .ok (.isub, 1) := by decide +kernel
theorem d_pr_insert_95 : decode b_pr_insert 95 = .ok (.invokestatic 54, 3) := by decide +kernel
theorem d_pr_insert_98 : decode b_pr_insert 98 = .ok (.aload_n 0, 1) := by decide +kernel
theorem d_pr_insert_99 : decode b_pr_insert 99 = .ok (.getfield 7, 3) := by decide +kernel
theorem d_pr_insert_102 : decode b_pr_insert 102 = .ok (.iload 4, 2) := by decide +kernel
theorem d_pr_insert_104 : decode b_pr_insert 104 = .ok (.iload_n 3, 1) := by decide +kernel
theorem d_pr_insert_105 : decode b_pr_insert 105 = .ok (.iastore, 1) := by decide +kernel
theorem d_pr_insert_106 : decode b_pr_insert 106 = .ok (.aload_n 0, 1) := by decide +kernel
theorem d_pr_insert_107 : decode b_pr_insert 107 = .ok (.dup, 1) := by decide +kernel
theorem d_pr_insert_108 : decode b_pr_insert 108 = .ok (.getfield 35, 3) := by decide +kernel
theorem d_pr_insert_111 : decode b_pr_insert 111 = .ok (.iconst 1, 1) := by decide +kernel
theorem d_pr_insert_112 : decode b_pr_insert 112 = .ok (.iadd, 1) := by decide +kernel
theorem d_pr_insert_113 : decode b_pr_insert 113 = .ok (.putfield 35, 3) := by decide +kernel
theorem d_pr_insert_116 : decode b_pr_insert 116 = .ok (.aload_n 0, 1) := by decide +kernel
theorem d_pr_insert_117 : decode b_pr_insert 117 = .ok (.iload_n 3, 1) := by decide +kernel
theorem d_pr_insert_118 : decode b_pr_insert 118 = .ok (.invokevirtual 60, 3) := by decide +kernel
theorem d_pr_insert_121 : decode b_pr_insert 121 = .ok (.return_, 1) := by decide +kernel
theorem d_pr_grow_0 : decode b_pr_grow 0 = .ok (.iconst 2, 1) := by decide +kernel
theorem d_pr_grow_1 : decode b_pr_grow 1 = .ok (.aload_n 0, 1) := by decide +kernel
theorem d_pr_grow_2 : decode b_pr_grow 2 = .ok (.getfield 42, 3) := by decide +kernel
theorem d_pr_grow_5 : decode b_pr_grow 5 = .ok (.imul, 1) := by decide +kernel
theorem d_pr_grow_6 : decode b_pr_grow 6 = .ok (.istore_n 1, 1) := by decide +kernel
theorem d_pr_grow_7 : decode b_pr_grow 7 = .ok (.aload_n 0, 1) := by decide +kernel
theorem d_pr_grow_8 : decode b_pr_grow 8 = .ok (.aload_n 0, 1) := by decide +kernel
theorem d_pr_grow_9 : decode b_pr_grow 9 = .ok (.getfield 7, 3) := by decide +kernel
theorem d_pr_grow_12 : decode b_pr_grow 12 = .ok (.iload_n 1, 1) := by decide +kernel
theorem d_pr_grow_13 : decode b_pr_grow 13 = .ok (.invokestatic 45, 3) := by decide +kernel
theorem d_pr_grow_16 : decode b_pr_grow 16 = .ok (.putfield 7, 3) := by decide +kernel
theorem d_pr_grow_19 : decode b_pr_grow 19 = .ok (.aload_n 0, 1) := by decide +kernel
theorem d_pr_grow_20 : decode b_pr_grow 20 = .ok (.aload_n 0, 1) := by decide +kernel
theorem d_pr_grow_21 : decode b_pr_grow 21 = .ok (.getfield 13, 3) := by decide +kernel
theorem d_pr_grow_24 : decode b_pr_grow 24 = .ok (.iload_n 1, 1) := by decide +kernel
theorem d_pr_grow_25 : decode b_pr_grow 25 = .ok (.invokestatic 45, 3) := by decide +kernel
theorem d_pr_grow_28 : decode b_pr_grow 28 = .ok (.putfield 13, 3) := by decide +kernel
theorem d_pr_grow_31 : decode b_pr_grow 31 = .ok (.aload_n 0, 1) := by decide +kernel
theorem d_pr_grow_32 : decode b_pr_grow 32 = .ok (.aload_n 0, 1) := by decide +kernel
theorem d_pr_grow_33 : decode b_pr_grow 33 = .ok (.getfield 16, 3) := by decide +kernel
theorem d_pr_grow_36 : decode b_pr_grow 36 = .ok (.iload_n 1, 1) := by decide +kernel
theorem d_pr_grow_37 : decode b_pr_grow 37 = .ok (.invokestatic 45, 3) := by decide +kernel
theorem d_pr_grow_40 : decode b_pr_grow 40 = .ok (.putfield 16, 3) := by decide +kernel
theorem d_pr_grow_43 : decode b_pr_grow 43 = .ok (.aload_n 0, 1) := by decide +kernel
theorem d_pr_grow_44 : decode b_pr_grow 44 = .ok (.aload_n 0, 1) := by decide +kernel
theorem d_pr_grow_45 : decode b_pr_grow 45 = .ok (.getfield 19, 3) := by decide +kernel
theorem d_pr_grow_48 : decode b_pr_grow 48 = .ok (.iload_n 1, 1) := by decide +kernel
theorem d_pr_grow_49 : decode b_pr_grow 49 = .ok (.invokestatic 45, 3) := by decide +kernel
theorem d_pr_grow_52 : decode b_pr_grow 52 = .ok (.putfield 19, 3) := by decide +kernel
theorem d_pr_grow_55 : decode b_pr_grow 55 = .ok (.aload_n 0, 1) := by decide +kernel
theorem d_pr_grow_56 : decode b_pr_grow 56 = .ok (.aload_n 0, 1) := by decide +kernel
theorem d_pr_grow_57 : decode b_pr_grow 57 = .ok (.getfield 22, 3) := by decide +kernel
theorem d_pr_grow_60 : decode b_pr_grow 60 = .ok (.iload_n 1, 1) := by decide +kernel
theorem d_pr_grow_61 : decode b_pr_grow 61 = .ok (.invokestatic 45, 3) := by decide +kernel
theorem d_pr_grow_64 : decode b_pr_grow 64 = .ok (.putfield 22, 3) := by decide +kernel
theorem d_pr_grow_67 : decode b_pr_grow 67 = .ok (.return_, 1) := by decide +kernel
theorem d_pr_link_0 : decode b_pr_link 0 = .ok (.aload_n 0, 1) := by decide +kernel
theorem d_pr_link_1 : decode b_pr_link 1 = .ok (.getfield 19, 3) := by decide +kernel
theorem d_pr_link_4 : decode b_pr_link 4 = .ok (.iload_n 1, 1) := by decide +kernel
theorem d_pr_link_5 : decode b_pr_link 5 = .ok (.aload_n 0, 1) := by decide +kernel
theorem d_pr_link_6 : decode b_pr_link 6 = .ok (.getfield 32, 3) := by decide +kernel
theorem d_pr_link_9 : decode b_pr_link 9 = .ok (.iastore, 1) := by decide +kernel
theorem d_pr_link_10 : decode b_pr_link 10 = .ok (.aload_n 0, 1) := by decide +kernel
theorem d_pr_link_11 : decode b_pr_link 11 = .ok (.getfield 22, 3) := by decide +kernel
theorem d_pr_link_14 : decode b_pr_link 14 = .ok (.iload_n 1, 1) := by decide +kernel
theorem d_pr_link_15 : decode b_pr_link 15 = .ok (.iconst (-1), 1) := by decide +kernel
theorem d_pr_link_16 : decode b_pr_link 16 = .ok (.iastore, 1) := by decide +kernel
theorem d_pr_link_17 : decode b_pr_link 17 = .ok (.aload_n 0, 1) := by decide +kernel
theorem d_pr_link_18 : decode b_pr_link 18 = .ok (.getfield 32, 3) := by decide +kernel
theorem d_pr_link_21 : decode b_pr_link 21 = .ok (.ifCond .lt 16, 3) := by decide +kernel
theorem d_pr_link_24 : decode b_pr_link 24 = .ok (.aload_n 0, 1) := by decide +kernel
theorem d_pr_link_25 : decode b_pr_link 25 = .ok (.getfield 22, 3) := by decide +kernel
theorem d_pr_link_28 : decode b_pr_link 28 = .ok (.aload_n 0, 1) := by decide +kernel
theorem d_pr_link_29 : decode b_pr_link 29 = .ok (.getfield 32, 3) := by decide +kernel
theorem d_pr_link_32 : decode b_pr_link 32 = .ok (.iload_n 1, 1) := by decide +kernel
theorem d_pr_link_33 : decode b_pr_link 33 = .ok (.iastore, 1) := by decide +kernel
theorem d_pr_link_34 : decode b_pr_link 34 = .ok (.goto 8, 3) := by decide +kernel
theorem d_pr_link_37 : decode b_pr_link 37 = .ok (.aload_n 0, 1) := by decide +kernel
theorem d_pr_link_38 : decode b_pr_link 38 = .ok (.iload_n 1, 1) := by decide +kernel
theorem d_pr_link_39 : decode b_pr_link 39 = .ok (.putfield 29, 3) := by decide +kernel
theorem d_pr_link_42 : decode b_pr_link 42 = .ok (.aload_n 0, 1) := by decide +kernel
theorem d_pr_link_43 : decode b_pr_link 43 = .ok (.iload_n 1, 1) := by decide +kernel
theorem d_pr_link_44 : decode b_pr_link 44 = .ok (.putfield 32, 3) := by decide +kernel
theorem d_pr_link_47 : decode b_pr_link 47 = .ok (.return_, 1) := by decide +kernel
theorem d_pr_toLast_0 : decode b_pr_toLast 0 = .ok (.aload_n 0, 1) := by decide +kernel
theorem d_pr_toLast_1 : decode b_pr_toLast 1 = .ok (.iload_n 1, 1) := by decide +kernel
theorem d_pr_toLast_2 : decode b_pr_toLast 2 = .ok (.invokevirtual 64, 3) := by decide +kernel
theorem d_pr_toLast_5 : decode b_pr_toLast 5 = .ok (.aload_n 0, 1) := by decide +kernel
theorem d_pr_toLast_6 : decode b_pr_toLast 6 = .ok (.iload_n 1, 1) := by decide +kernel
theorem d_pr_toLast_7 : decode b_pr_toLast 7 = .ok (.invokevirtual 60, 3) := by decide +kernel
theorem d_pr_toLast_10 : decode b_pr_toLast 10 = .ok (.return_, 1) := by decide +kernel
theorem d_pr_unlink_0 : decode b_pr_unlink 0 = .ok (.aload_n 0, 1) := by decide +kernel
theorem d_pr_unlink_1 : decode b_pr_unlink 1 = .ok (.getfield 19, 3) := by decide +kernel
theorem d_pr_unlink_4 : decode b_pr_unlink 4 = .ok (.iload_n 1, 1) := by decide +kernel
theorem d_pr_unlink_5 : decode b_pr_unlink 5 = .ok (.iaload, 1) := by decide +kernel
theorem d_pr_unlink_6 : decode b_pr_unlink 6 = .ok (.ifCond .lt 23, 3) := by decide +kernel
theorem d_pr_unlink_9 : decode b_pr_unlink 9 = .ok (.aload_n 0, 1) := by decide +kernel
theorem d_pr_unlink_10 : decode b_pr_unlink 10 = .ok (.getfield 22, 3) := by decide +kernel
theorem d_pr_unlink_13 : decode b_pr_unlink 13 = .ok (.aload_n 0, 1) := by decide +kernel
theorem d_pr_unlink_14 : decode b_pr_unlink 14 = .ok (.getfield 19, 3) := by decide +kernel
theorem d_pr_unlink_17 : decode b_pr_unlink 17 = .ok (.iload_n 1, 1) := by decide +kernel
theorem d_pr_unlink_18 : decode b_pr_unlink 18 = .ok (.iaload, 1) := by decide +kernel
theorem d_pr_unlink_19 : decode b_pr_unlink 19 = .ok (.aload_n 0, 1) := by decide +kernel
theorem d_pr_unlink_20 : decode b_pr_unlink 20 = .ok (.getfield 22, 3) := by decide +kernel
theorem d_pr_unlink_23 : decode b_pr_unlink 23 = .ok (.iload_n 1, 1) := by decide +kernel
theorem d_pr_unlink_24 : decode b_pr_unlink 24 = .ok (.iaload, 1) := by decide +kernel
theorem d_pr_unlink_25 : decode b_pr_unlink 25 = .ok (.iastore, 1) := by decide +kernel
theorem d_pr_unlink_26 : decode b_pr_unlink 26 = .ok (.goto 13, 3) := by decide +kernel
theorem d_pr_unlink_29 : decode b_pr_unlink 29 = .ok (.aload_n 0, 1) := by decide +kernel
theorem d_pr_unlink_30 : decode b_pr_unlink 30 = .ok (.aload_n 0, 1) := by decide +kernel
theorem d_pr_unlink_31 : decode b_pr_unlink 31 = .ok (.getfield 22, 3) := by decide +kernel
theorem d_pr_unlink_34 : decode b_pr_unlink 34 = .ok (.iload_n 1, 1) := by decide +kernel
theorem d_pr_unlink_35 : decode b_pr_unlink 35 = .ok (.iaload, 1) := by decide +kernel
theorem d_pr_unlink_36 : decode b_pr_unlink 36 = .ok (.putfield 29, 3) := by decide +kernel
theorem d_pr_unlink_39 : decode b_pr_unlink 39 = .ok (.aload_n 0, 1) := by decide +kernel
theorem d_pr_unlink_40 : decode b_pr_unlink 40 = .ok (.getfield 22, 3) := by decide +kernel
theorem d_pr_unlink_43 : decode b_pr_unlink 43 = .ok (.iload_n 1, 1) := by decide +kernel
theorem d_pr_unlink_44 : decode b_pr_unlink 44 = .ok (.iaload, 1) := by decide +kernel
theorem d_pr_unlink_45 : decode b_pr_unlink 45 = .ok (.ifCond .lt 23, 3) := by decide +kernel
theorem d_pr_unlink_48 : decode b_pr_unlink 48 = .ok (.aload_n 0, 1) := by decide +kernel
theorem d_pr_unlink_49 : decode b_pr_unlink 49 = .ok (.getfield 19, 3) := by decide +kernel
theorem d_pr_unlink_52 : decode b_pr_unlink 52 = .ok (.aload_n 0, 1) := by decide +kernel
theorem d_pr_unlink_53 : decode b_pr_unlink 53 = .ok (.getfield 22, 3) := by decide +kernel
theorem d_pr_unlink_56 : decode b_pr_unlink 56 = .ok (.iload_n 1, 1) := by decide +kernel
theorem d_pr_unlink_57 : decode b_pr_unlink 57 = .ok (.iaload, 1) := by decide +kernel
theorem d_pr_unlink_58 : decode b_pr_unlink 58 = .ok (.aload_n 0, 1) := by decide +kernel
theorem d_pr_unlink_59 : decode b_pr_unlink 59 = .ok (.getfield 19, 3) := by decide +kernel
theorem d_pr_unlink_62 : decode b_pr_unlink 62 = .ok (.iload_n 1, 1) := by decide +kernel
theorem d_pr_unlink_63 : decode b_pr_unlink 63 = .ok (.iaload, 1) := by decide +kernel
theorem d_pr_unlink_64 : decode b_pr_unlink 64 = .ok (.iastore, 1) := by decide +kernel
theorem d_pr_unlink_65 : decode b_pr_unlink 65 = .ok (.goto 13, 3) := by decide +kernel
theorem d_pr_unlink_68 : decode b_pr_unlink 68 = .ok (.aload_n 0, 1) := by decide +kernel
theorem d_pr_unlink_69 : decode b_pr_unlink 69 = .ok (.aload_n 0, 1) := by decide +kernel
theorem d_pr_unlink_70 : decode b_pr_unlink 70 = .ok (.getfield 19, 3) := by decide +kernel
theorem d_pr_unlink_73 : decode b_pr_unlink 73 = .ok (.iload_n 1, 1) := by decide +kernel
theorem d_pr_unlink_74 : decode b_pr_unlink 74 = .ok (.iaload, 1) := by decide +kernel
theorem d_pr_unlink_75 : decode b_pr_unlink 75 = .ok (.putfield 32, 3) := by decide +kernel
theorem d_pr_unlink_78 : decode b_pr_unlink 78 = .ok (.return_, 1) := by decide +kernel
theorem d_pr_delete_0 : decode b_pr_delete 0 = .ok (.aload_n 0, 1) := by decide +kernel
theorem d_pr_delete_1 : decode b_pr_delete 1 = .ok (.aload_n 0, 1) := by decide +kernel
theorem d_pr_delete_2 : decode b_pr_delete 2 = .ok (.getfield 13, 3) := by decide +kernel
theorem d_pr_delete_5 : decode b_pr_delete 5 = .ok (.iload_n 1, 1) := by decide +kernel
theorem d_pr_delete_6 : decode b_pr_delete 6 = .ok (.iaload, 1) := by decide +kernel
theorem d_pr_delete_7 : decode b_pr_delete 7 = .ok (.invokevirtual 38, 3) := by decide +kernel
theorem d_pr_delete_10 : decode b_pr_delete 10 = .ok (.istore_n 2, 1) := by decide +kernel
theorem d_pr_delete_11 : decode b_pr_delete 11 = .ok (.aload_n 0, 1) := by decide +kernel
theorem d_pr_delete_12 : decode b_pr_delete 12 = .ok (.dup, 1) := by decide +kernel
theorem d_pr_delete_13 : decode b_pr_delete 13 = .ok (.getfield 35, 3) := by decide +kernel
theorem d_pr_delete_16 : decode b_pr_delete 16 = .ok (.iconst 1, 1) := by decide +kernel
theorem d_pr_delete_17 : decode b_pr_delete 17 = .ok (.isub, 1) := by decide +kernel
theorem d_pr_delete_18 : decode b_pr_delete 18 = .ok (.putfield 35, 3) := by decide +kernel
theorem d_pr_delete_21 : decode b_pr_delete 21 = .ok (.aload_n 0, 1) := by decide +kernel
theorem d_pr_delete_22 : decode b_pr_delete 22 = .ok (.getfield 7, 3) := by decide +kernel
theorem d_pr_delete_25 : decode b_pr_delete 25 = .ok (.iload_n 2, 1) := by decide +kernel
theorem d_pr_delete_26 : decode b_pr_delete 26 = .ok (.iconst 1, 1) := by decide +kernel
theorem d_pr_delete_27 : decode b_pr_delete 27 = .ok (.iadd, 1) := by decide +kernel
theorem d_pr_delete_28 : decode b_pr_delete 28 = .ok (.aload_n 0, 1) := by decide +kernel
theorem d_pr_delete_29 : decode b_pr_delete 29 = .ok (.getfield 7, 3) := by decide +kernel
theorem d_pr_delete_32 : decode b_pr_delete 32 = .ok (.iload_n 2, 1) := by decide +kernel
theorem d_pr_delete_33 : decode b_pr_delete 33 = .ok (.aload_n 0, 1) := by decide +kernel
theorem d_pr_delete_34 : decode b_pr_delete 34 = .ok (.getfield 35, 3) := by decide +kernel
theorem d_pr_delete_37 : decode b_pr_delete 37 = .ok (.iload_n 2, 1) := by decide +kernel
theorem d_pr_delete_38 : decode b_pr_delete 38 = .ok (.isub, 1) := by decide +kernel
theorem d_pr_delete_39 : decode b_pr_delete 39 = .ok (.invokestatic 54, 3) := by decide +kernel
theorem d_pr_delete_42 : decode b_pr_delete 42 = .ok (.aload_n 0, 1) := by decide +kernel
theorem d_pr_delete_43 : decode b_pr_delete 43 = .ok (.iload_n 1, 1) := by decide +kernel
theorem d_pr_delete_44 : decode b_pr_delete 44 = .ok (.invokevirtual 64, 3) := by decide +kernel
theorem d_pr_delete_47 : decode b_pr_delete 47 = .ok (.aload_n 0, 1) := by decide +kernel
theorem d_pr_delete_48 : decode b_pr_delete 48 = .ok (.getfield 22, 3) := by decide +kernel
theorem d_pr_delete_51 : decode b_pr_delete 51 = .ok (.iload_n 1, 1) := by decide +kernel
theorem d_pr_delete_52 : decode b_pr_delete 52 = .ok (.aload_n 0, 1) := by decide +kernel
theorem d_pr_delete_53 : decode b_pr_delete 53 = .ok (.getfield 25, 3) := by decide +kernel
theorem d_pr_delete_56 : decode b_pr_delete 56 = .ok (.iastore, 1) := by decide +kernel
theorem d_pr_delete_57 : decode b_pr_delete 57 = .ok (.aload_n 0, 1) := by decide +kernel
theorem d_pr_delete_58 : decode b_pr_delete 58 = .ok (.iload_n 1, 1) := by decide +kernel
theorem d_pr_delete_59 : decode b_pr_delete 59 = .ok (.putfield 25, 3) := by decide +kernel
theorem d_pr_delete_62 : decode b_pr_delete 62 = .ok (.return_, 1) := by decide +kernel
theorem d_pr_clear_0 : decode b_pr_clear 0 = .ok (.aload_n 0, 1) := by decide +kernel
theorem d_pr_clear_1 : decode b_pr_clear 1 = .ok (.iconst 0, 1) := by decide +kernel
theorem d_pr_clear_2 : decode b_pr_clear 2 = .ok (.putfield 35, 3) := by decide +kernel
theorem d_pr_clear_5 : decode b_pr_clear 5 = .ok (.aload_n 0, 1) := by decide +kernel
theorem d_pr_clear_6 : decode b_pr_clear 6 = .ok (.iconst (-1), 1) := by decide +kernel
theorem d_pr_clear_7 : decode b_pr_clear 7 = .ok (.putfield 25, 3) := by decide +kernel
theorem d_pr_clear_10 : decode b_pr_clear 10 = .ok (.aload_n 0, 1) := by decide +kernel
theorem d_pr_clear_11 : decode b_pr_clear 11 = .ok (.iconst 0, 1) := by decide +kernel
theorem d_pr_clear_12 : decode b_pr_clear 12 = .ok (.putfield 42, 3) := by decide +kernel
theorem d_pr_clear_15 : decode b_pr_clear 15 = .ok (.aload_n 0, 1) := by decide +kernel
theorem d_pr_clear_16 : decode b_pr_clear 16 = .ok (.iconst (-1), 1) := by decide +kernel
theorem d_pr_clear_17 : decode b_pr_clear 17 = .ok (.putfield 29, 3) := by decide +kernel
theorem d_pr_clear_20 : decode b_pr_clear 20 = .ok (.aload_n 0, 1) := by decide +kernel
theorem d_pr_clear_21 : decode b_pr_clear 21 = .ok (.iconst (-1), 1) := by decide +kernel
theorem d_pr_clear_22 : decode b_pr_clear 22 = .ok (.putfield 32, 3) := by decide +kernel
theorem d_pr_clear_25 : decode b_pr_clear 25 = .ok (.return_, 1) := by decide +kernel
