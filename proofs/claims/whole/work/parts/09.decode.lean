theorem dX0_init_0 : decode cX0_init 0 = .ok (.aload_n 0, 1) := by decide +kernel
theorem dX0_init_1 : decode cX0_init 1 = .ok (.invokespecial 3, 3) := by decide +kernel
theorem dX0_init_4 : decode cX0_init 4 = .ok (.aload_n 0, 1) := by decide +kernel
theorem dX0_init_5 : decode cX0_init 5 = .ok (.bipush 16, 2) := by decide +kernel
theorem dX0_init_7 : decode cX0_init 7 = .ok (.newarray .int, 2) := by decide +kernel
theorem dX0_init_9 : decode cX0_init 9 = .ok (.putfield 9, 3) := by decide +kernel
theorem dX0_init_12 : decode cX0_init 12 = .ok (.return_, 1) := by decide +kernel
theorem dX0_put_0 : decode cX0_put 0 = .ok (.aload_n 0, 1) := by decide +kernel
theorem dX0_put_1 : decode cX0_put 1 = .ok (.iconst 0, 1) := by decide +kernel
theorem dX0_put_2 : decode cX0_put 2 = .ok (.putfield 13, 3) := by decide +kernel
theorem dX0_put_5 : decode cX0_put 5 = .ok (.aload_n 0, 1) := by decide +kernel
theorem dX0_put_6 : decode cX0_put 6 = .ok (.lload_n 1, 1) := by decide +kernel
theorem dX0_put_7 : decode cX0_put 7 = .ok (.invokevirtual 17, 3) := by decide +kernel
theorem dX0_put_10 : decode cX0_put 10 = .ok (.return_, 1) := by decide +kernel
theorem dX0_copy_0 : decode cX0_copy 0 = .ok (.aload_n 0, 1) := by decide +kernel
theorem dX0_copy_1 : decode cX0_copy 1 = .ok (.aload_n 1, 1) := by decide +kernel
theorem dX0_copy_2 : decode cX0_copy 2 = .ok (.getfield 13, 3) := by decide +kernel
theorem dX0_copy_5 : decode cX0_copy 5 = .ok (.putfield 13, 3) := by decide +kernel
theorem dX0_copy_8 : decode cX0_copy 8 = .ok (.aload_n 1, 1) := by decide +kernel
theorem dX0_copy_9 : decode cX0_copy 9 = .ok (.getfield 9, 3) := by decide +kernel
theorem dX0_copy_12 : decode cX0_copy 12 = .ok (.iconst 0, 1) := by decide +kernel
theorem dX0_copy_13 : decode cX0_copy 13 = .ok (.aload_n 0, 1) := by decide +kernel
theorem dX0_copy_14 : decode cX0_copy 14 = .ok (.getfield 9, 3) := by decide +kernel
theorem dX0_copy_17 : decode cX0_copy 17 = .ok (.iconst 0, 1) := by decide +kernel
theorem dX0_copy_18 : decode cX0_copy 18 = .ok (.bipush 16, 2) := by decide +kernel
theorem dX0_copy_20 : decode cX0_copy 20 = .ok (.invokestatic 21, 3) := by decide +kernel
theorem dX0_copy_23 : decode cX0_copy 23 = .ok (.return_, 1) := by decide +kernel
theorem dX0_carryOn_0 : decode cX0_carryOn 0 = .ok (.lload_n 1, 1) := by decide +kernel
theorem dX0_carryOn_1 : decode cX0_carryOn 1 = .ok (.lstore_n 3, 1) := by decide +kernel
theorem dX0_carryOn_2 : decode cX0_carryOn 2 = .ok (.lload_n 3, 1) := by decide +kernel
theorem dX0_carryOn_3 : decode cX0_carryOn 3 = .ok (.lconst 0, 1) := by decide +kernel
theorem dX0_carryOn_4 : decode cX0_carryOn 4 = .ok (.lcmp, 1) := by decide +kernel
theorem dX0_carryOn_5 : decode cX0_carryOn 5 = .ok (.ifCond .le 45, 3) := by decide +kernel
theorem dX0_carryOn_8 : decode cX0_carryOn 8 = .ok (.aload_n 0, 1) := by decide +kernel
theorem dX0_carryOn_9 : decode cX0_carryOn 9 = .ok (.getfield 13, 3) := by decide +kernel
theorem dX0_carryOn_12 : decode cX0_carryOn 12 = .ok (.bipush 16, 2) := by decide +kernel
theorem dX0_carryOn_14 : decode cX0_carryOn 14 = .ok (.if_icmp .ge 36, 3) := by decide +kernel
theorem dX0_carryOn_17 : decode cX0_carryOn 17 = .ok (.aload_n 0, 1) := by decide +kernel
theorem dX0_carryOn_18 : decode cX0_carryOn 18 = .ok (.getfield 9, 3) := by decide +kernel
theorem dX0_carryOn_21 : decode cX0_carryOn 21 = .ok (.aload_n 0, 1) := by decide +kernel
theorem dX0_carryOn_22 : decode cX0_carryOn 22 = .ok (.getfield 13, 3) := by decide +kernel
theorem dX0_carryOn_25 : decode cX0_carryOn 25 = .ok (.lload_n 3, 1) := by decide +kernel
theorem dX0_carryOn_26 : decode cX0_carryOn 26 = .ok (.ldc2_w 27, 3) := by decide +kernel
theorem dX0_carryOn_29 : decode cX0_carryOn 29 = .ok (.land, 1) := by decide +kernel
theorem dX0_carryOn_30 : decode cX0_carryOn 30 = .ok (.l2i, 1) := by decide +kernel
theorem dX0_carryOn_31 : decode cX0_carryOn 31 = .ok (.iastore, 1) := by decide +kernel
theorem dX0_carryOn_32 : decode cX0_carryOn 32 = .ok (.aload_n 0, 1) := by decide +kernel
theorem dX0_carryOn_33 : decode cX0_carryOn 33 = .ok (.dup, 1) := by decide +kernel
theorem dX0_carryOn_34 : decode cX0_carryOn 34 = .ok (.getfield 13, 3) := by decide +kernel
theorem dX0_carryOn_37 : decode cX0_carryOn 37 = .ok (.iconst 1, 1) := by decide +kernel
theorem dX0_carryOn_38 : decode cX0_carryOn 38 = .ok (.iadd, 1) := by decide +kernel
theorem dX0_carryOn_39 : decode cX0_carryOn 39 = .ok (.putfield 13, 3) := by decide +kernel
theorem dX0_carryOn_42 : decode cX0_carryOn 42 = .ok (.lload_n 3, 1) := by decide +kernel
theorem dX0_carryOn_43 : decode cX0_carryOn 43 = .ok (.bipush 30, 2) := by decide +kernel
theorem dX0_carryOn_45 : decode cX0_carryOn 45 = .ok (.lshr, 1) := by decide +kernel
theorem dX0_carryOn_46 : decode cX0_carryOn 46 = .ok (.lstore_n 3, 1) := by decide +kernel
theorem dX0_carryOn_47 : decode cX0_carryOn 47 = .ok (.goto (-45), 3) := by decide +kernel
theorem dX0_carryOn_50 : decode cX0_carryOn 50 = .ok (.return_, 1) := by decide +kernel
theorem dX0_multiply_0 : decode cX0_multiply 0 = .ok (.lconst 0, 1) := by decide +kernel
theorem dX0_multiply_1 : decode cX0_multiply 1 = .ok (.lstore_n 3, 1) := by decide +kernel
theorem dX0_multiply_2 : decode cX0_multiply 2 = .ok (.iconst 0, 1) := by decide +kernel
theorem dX0_multiply_3 : decode cX0_multiply 3 = .ok (.istore 5, 2) := by decide +kernel
theorem dX0_multiply_5 : decode cX0_multiply 5 = .ok (.iload 5, 2) := by decide +kernel
theorem dX0_multiply_7 : decode cX0_multiply 7 = .ok (.aload_n 0, 1) := by decide +kernel
theorem dX0_multiply_8 : decode cX0_multiply 8 = .ok (.getfield 13, 3) := by decide +kernel
theorem dX0_multiply_11 : decode cX0_multiply 11 = .ok (.if_icmp .ge 40, 3) := by decide +kernel
theorem dX0_multiply_14 : decode cX0_multiply 14 = .ok (.lload_n 3, 1) := by decide +kernel
theorem dX0_multiply_15 : decode cX0_multiply 15 = .ok (.aload_n 0, 1) := by decide +kernel
theorem dX0_multiply_16 : decode cX0_multiply 16 = .ok (.getfield 9, 3) := by decide +kernel
theorem dX0_multiply_19 : decode cX0_multiply 19 = .ok (.iload 5, 2) := by decide +kernel
theorem dX0_multiply_21 : decode cX0_multiply 21 = .ok (.iaload, 1) := by decide +kernel
theorem dX0_multiply_22 : decode cX0_multiply 22 = .ok (.i2l, 1) := by decide +kernel
theorem dX0_multiply_23 : decode cX0_multiply 23 = .ok (.lload_n 1, 1) := by decide +kernel
theorem dX0_multiply_24 : decode cX0_multiply 24 = .ok (.lmul, 1) := by decide +kernel
theorem dX0_multiply_25 : decode cX0_multiply 25 = .ok (.ladd, 1) := by decide +kernel
theorem dX0_multiply_26 : decode cX0_multiply 26 = .ok (.lstore_n 3, 1) := by decide +kernel
theorem dX0_multiply_27 : decode cX0_multiply 27 = .ok (.aload_n 0, 1) := by decide +kernel
theorem dX0_multiply_28 : decode cX0_multiply 28 = .ok (.getfield 9, 3) := by decide +kernel
theorem dX0_multiply_31 : decode cX0_multiply 31 = .ok (.iload 5, 2) := by decide +kernel
theorem dX0_multiply_33 : decode cX0_multiply 33 = .ok (.lload_n 3, 1) := by decide +kernel
theorem dX0_multiply_34 : decode cX0_multiply 34 = .ok (.ldc2_w 27, 3) := by decide +kernel
theorem dX0_multiply_37 : decode cX0_multiply 37 = .ok (.land, 1) := by decide +kernel
theorem dX0_multiply_38 : decode cX0_multiply 38 = .ok (.l2i, 1) := by decide +kernel
theorem dX0_multiply_39 : decode cX0_multiply 39 = .ok (.iastore, 1) := by decide +kernel
theorem dX0_multiply_40 : decode cX0_multiply 40 = .ok (.lload_n 3, 1) := by decide +kernel
theorem dX0_multiply_41 : decode cX0_multiply 41 = .ok (.bipush 30, 2) := by decide +kernel
theorem dX0_multiply_43 : decode cX0_multiply 43 = .ok (.lshr, 1) := by decide +kernel
theorem dX0_multiply_44 : decode cX0_multiply 44 = .ok (.lstore_n 3, 1) := by decide +kernel
theorem dX0_multiply_45 : decode cX0_multiply 45 = .ok (.iinc 5 1, 3) := by decide +kernel
theorem dX0_multiply_48 : decode cX0_multiply 48 = .ok (.goto (-43), 3) := by decide +kernel
theorem dX0_multiply_51 : decode cX0_multiply 51 = .ok (.aload_n 0, 1) := by decide +kernel
theorem dX0_multiply_52 : decode cX0_multiply 52 = .ok (.lload_n 3, 1) := by decide +kernel
theorem dX0_multiply_53 : decode cX0_multiply 53 = .ok (.invokevirtual 17, 3) := by decide +kernel
theorem dX0_multiply_56 : decode cX0_multiply 56 = .ok (.return_, 1) := by decide +kernel
theorem dX0_add_0 : decode cX0_add 0 = .ok (.aload_n 0, 1) := by decide +kernel
theorem dX0_add_1 : decode cX0_add 1 = .ok (.getfield 13, 3) := by decide +kernel
theorem dX0_add_4 : decode cX0_add 4 = .ok (.aload_n 1, 1) := by decide +kernel
theorem dX0_add_5 : decode cX0_add 5 = .ok (.getfield 13, 3) := by decide +kernel
theorem dX0_add_8 : decode cX0_add 8 = .ok (.if_icmp .ge 26, 3) := by decide +kernel
theorem dX0_add_11 : decode cX0_add 11 = .ok (.aload_n 0, 1) := by decide +kernel
theorem dX0_add_12 : decode cX0_add 12 = .ok (.getfield 9, 3) := by decide +kernel
theorem dX0_add_15 : decode cX0_add 15 = .ok (.aload_n 0, 1) := by decide +kernel
theorem dX0_add_16 : decode cX0_add 16 = .ok (.getfield 13, 3) := by decide +kernel
theorem dX0_add_19 : decode cX0_add 19 = .ok (.iconst 0, 1) := by decide +kernel
theorem dX0_add_20 : decode cX0_add 20 = .ok (.iastore, 1) := by decide +kernel
theorem dX0_add_21 : decode cX0_add 21 = .ok (.aload_n 0, 1) := by decide +kernel
theorem dX0_add_22 : decode cX0_add 22 = .ok (.dup, 1) := by decide +kernel
theorem dX0_add_23 : decode cX0_add 23 = .ok (.getfield 13, 3) := by decide +kernel
theorem dX0_add_26 : decode cX0_add 26 = .ok (.iconst 1, 1) := by decide +kernel
theorem dX0_add_27 : decode cX0_add 27 = .ok (.iadd, 1) := by decide +kernel
theorem dX0_add_28 : decode cX0_add 28 = .ok (.putfield 13, 3) := by decide +kernel
theorem dX0_add_31 : decode cX0_add 31 = .ok (.goto (-31), 3) := by decide +kernel
theorem dX0_add_34 : decode cX0_add 34 = .ok (.lconst 0, 1) := by decide +kernel
theorem dX0_add_35 : decode cX0_add 35 = .ok (.lstore_n 2, 1) := by decide +kernel
theorem dX0_add_36 : decode cX0_add 36 = .ok (.iconst 0, 1) := by decide +kernel
theorem dX0_add_37 : decode cX0_add 37 = .ok (.istore 4, 2) := by decide +kernel
theorem dX0_add_39 : decode cX0_add 39 = .ok (.iload 4, 2) := by decide +kernel
theorem dX0_add_41 : decode cX0_add 41 = .ok (.aload_n 0, 1) := by decide +kernel
theorem dX0_add_42 : decode cX0_add 42 = .ok (.getfield 13, 3) := by decide +kernel
theorem dX0_add_45 : decode cX0_add 45 = .ok (.if_icmp .ge 60, 3) := by decide +kernel
theorem dX0_add_48 : decode cX0_add 48 = .ok (.lload_n 2, 1) := by decide +kernel
theorem dX0_add_49 : decode cX0_add 49 = .ok (.aload_n 0, 1) := by decide +kernel
theorem dX0_add_50 : decode cX0_add 50 = .ok (.getfield 9, 3) := by decide +kernel
theorem dX0_add_53 : decode cX0_add 53 = .ok (.iload 4, 2) := by decide +kernel
theorem dX0_add_55 : decode cX0_add 55 = .ok (.iaload, 1) := by decide +kernel
theorem dX0_add_56 : decode cX0_add 56 = .ok (.i2l, 1) := by decide +kernel
theorem dX0_add_57 : decode cX0_add 57 = .ok (.iload 4, 2) := by decide +kernel
theorem dX0_add_59 : decode cX0_add 59 = .ok (.aload_n 1, 1) := by decide +kernel
theorem dX0_add_60 : decode cX0_add 60 = .ok (.getfield 13, 3) := by decide +kernel
theorem dX0_add_63 : decode cX0_add 63 = .ok (.if_icmp .ge 14, 3) := by decide +kernel
theorem dX0_add_66 : decode cX0_add 66 = .ok (.aload_n 1, 1) := by decide +kernel
theorem dX0_add_67 : decode cX0_add 67 = .ok (.getfield 9, 3) := by decide +kernel
theorem dX0_add_70 : decode cX0_add 70 = .ok (.iload 4, 2) := by decide +kernel
theorem dX0_add_72 : decode cX0_add 72 = .ok (.iaload, 1) := by decide +kernel
theorem dX0_add_73 : decode cX0_add 73 = .ok (.i2l, 1) := by decide +kernel
theorem dX0_add_74 : decode cX0_add 74 = .ok (.goto 4, 3) := by decide +kernel
theorem dX0_add_77 : decode cX0_add 77 = .ok (.lconst 0, 1) := by decide +kernel
theorem dX0_add_78 : decode cX0_add 78 = .ok (.ladd, 1) := by decide +kernel
theorem dX0_add_79 : decode cX0_add 79 = .ok (.ladd, 1) := by decide +kernel
theorem dX0_add_80 : decode cX0_add 80 = .ok (.lstore_n 2, 1) := by decide +kernel
theorem dX0_add_81 : decode cX0_add 81 = .ok (.aload_n 0, 1) := by decide +kernel
theorem dX0_add_82 : decode cX0_add 82 = .ok (.getfield 9, 3) := by decide +kernel
theorem dX0_add_85 : decode cX0_add 85 = .ok (.iload 4, 2) := by decide +kernel
theorem dX0_add_87 : decode cX0_add 87 = .ok (.lload_n 2, 1) := by decide +kernel
theorem dX0_add_88 : decode cX0_add 88 = .ok (.ldc2_w 27, 3) := by decide +kernel
theorem dX0_add_91 : decode cX0_add 91 = .ok (.land, 1) := by decide +kernel
theorem dX0_add_92 : decode cX0_add 92 = .ok (.l2i, 1) := by decide +kernel
theorem dX0_add_93 : decode cX0_add 93 = .ok (.iastore, 1) := by decide +kernel
theorem dX0_add_94 : decode cX0_add 94 = .ok (.lload_n 2, 1) := by decide +kernel
theorem dX0_add_95 : decode cX0_add 95 = .ok (.bipush 30, 2) := by decide +kernel
theorem dX0_add_97 : decode cX0_add 97 = .ok (.lshr, 1) := by decide +kernel
theorem dX0_add_98 : decode cX0_add 98 = .ok (.lstore_n 2, 1) := by decide +kernel
theorem dX0_add_99 : decode cX0_add 99 = .ok (.iinc 4 1, 3) := by decide +kernel
theorem dX0_add_102 : decode cX0_add 102 = .ok (.goto (-63), 3) := by decide +kernel
theorem dX0_add_105 : decode cX0_add 105 = .ok (.aload_n 0, 1) := by decide +kernel
theorem dX0_add_106 : decode cX0_add 106 = .ok (.lload_n 2, 1) := by decide +kernel
theorem dX0_add_107 : decode cX0_add 107 = .ok (.invokevirtual 17, 3) := by decide +kernel
theorem dX0_add_110 : decode cX0_add 110 = .ok (.return_, 1) := by decide +kernel
theorem dX0_restOf_0 : decode cX0_restOf 0 = .ok (.lconst 0, 1) := by decide +kernel
theorem dX0_restOf_1 : decode cX0_restOf 1 = .ok (.lstore_n 2, 1) := by decide +kernel
theorem dX0_restOf_2 : decode cX0_restOf 2 = .ok (.aload_n 0, 1) := by decide +kernel
theorem dX0_restOf_3 : decode cX0_restOf 3 = .ok (.getfield 13, 3) := by decide +kernel
theorem dX0_restOf_6 : decode cX0_restOf 6 = .ok (.iconst 1, 1) := by decide +kernel
theorem dX0_restOf_7 : decode cX0_restOf 7 = .ok (.isub, 1) := by decide +kernel
theorem dX0_restOf_8 : decode cX0_restOf 8 = .ok (.istore 4, 2) := by decide +kernel
theorem dX0_restOf_10 : decode cX0_restOf 10 = .ok (.iload 4, 2) := by decide +kernel
theorem dX0_restOf_12 : decode cX0_restOf 12 = .ok (.ifCond .lt 30, 3) := by decide +kernel
theorem dX0_restOf_15 : decode cX0_restOf 15 = .ok (.iload_n 1, 1) := by decide +kernel
theorem dX0_restOf_16 : decode cX0_restOf 16 = .ok (.ifCond .le 26, 3) := by decide +kernel
theorem dX0_restOf_19 : decode cX0_restOf 19 = .ok (.lload_n 2, 1) := by decide +kernel
theorem dX0_restOf_20 : decode cX0_restOf 20 = .ok (.bipush 30, 2) := by decide +kernel
theorem dX0_restOf_22 : decode cX0_restOf 22 = .ok (.lshl, 1) := by decide +kernel
theorem dX0_restOf_23 : decode cX0_restOf 23 = .ok (.aload_n 0, 1) := by decide +kernel
theorem dX0_restOf_24 : decode cX0_restOf 24 = .ok (.getfield 9, 3) := by decide +kernel
theorem dX0_restOf_27 : decode cX0_restOf 27 = .ok (.iload 4, 2) := by decide +kernel
theorem dX0_restOf_29 : decode cX0_restOf 29 = .ok (.iaload, 1) := by decide +kernel
theorem dX0_restOf_30 : decode cX0_restOf 30 = .ok (.i2l, 1) := by decide +kernel
theorem dX0_restOf_31 : decode cX0_restOf 31 = .ok (.lor, 1) := by decide +kernel
theorem dX0_restOf_32 : decode cX0_restOf 32 = .ok (.iload_n 1, 1) := by decide +kernel
theorem dX0_restOf_33 : decode cX0_restOf 33 = .ok (.i2l, 1) := by decide +kernel
theorem dX0_restOf_34 : decode cX0_restOf 34 = .ok (.lrem, 1) := by decide +kernel
theorem dX0_restOf_35 : decode cX0_restOf 35 = .ok (.lstore_n 2, 1) := by decide +kernel
theorem dX0_restOf_36 : decode cX0_restOf 36 = .ok (.iinc 4 (-1), 3) := by decide +kernel
theorem dX0_restOf_39 : decode cX0_restOf 39 = .ok (.goto (-29), 3) := by decide +kernel
theorem dX0_restOf_42 : decode cX0_restOf 42 = .ok (.lload_n 2, 1) := by decide +kernel
theorem dX0_restOf_43 : decode cX0_restOf 43 = .ok (.l2i, 1) := by decide +kernel
theorem dX0_restOf_44 : decode cX0_restOf 44 = .ok (.ireturn, 1) := by decide +kernel
theorem dX0_divide_0 : decode cX0_divide 0 = .ok (.lconst 0, 1) := by decide +kernel
theorem dX0_divide_1 : decode cX0_divide 1 = .ok (.lstore_n 2, 1) := by decide +kernel
theorem dX0_divide_2 : decode cX0_divide 2 = .ok (.aload_n 0, 1) := by decide +kernel
theorem dX0_divide_3 : decode cX0_divide 3 = .ok (.getfield 13, 3) := by decide +kernel
theorem dX0_divide_6 : decode cX0_divide 6 = .ok (.iconst 1, 1) := by decide +kernel
theorem dX0_divide_7 : decode cX0_divide 7 = .ok (.isub, 1) := by decide +kernel
theorem dX0_divide_8 : decode cX0_divide 8 = .ok (.istore 4, 2) := by decide +kernel
theorem dX0_divide_10 : decode cX0_divide 10 = .ok (.iload 4, 2) := by decide +kernel
theorem dX0_divide_12 : decode cX0_divide 12 = .ok (.ifCond .lt 44, 3) := by decide +kernel
theorem dX0_divide_15 : decode cX0_divide 15 = .ok (.iload_n 1, 1) := by decide +kernel
theorem dX0_divide_16 : decode cX0_divide 16 = .ok (.ifCond .le 40, 3) := by decide +kernel
theorem dX0_divide_19 : decode cX0_divide 19 = .ok (.lload_n 2, 1) := by decide +kernel
theorem dX0_divide_20 : decode cX0_divide 20 = .ok (.bipush 30, 2) := by decide +kernel
theorem dX0_divide_22 : decode cX0_divide 22 = .ok (.lshl, 1) := by decide +kernel
theorem dX0_divide_23 : decode cX0_divide 23 = .ok (.aload_n 0, 1) := by decide +kernel
theorem dX0_divide_24 : decode cX0_divide 24 = .ok (.getfield 9, 3) := by decide +kernel
theorem dX0_divide_27 : decode cX0_divide 27 = .ok (.iload 4, 2) := by decide +kernel
theorem dX0_divide_29 : decode cX0_divide 29 = .ok (.iaload, 1) := by decide +kernel
theorem dX0_divide_30 : decode cX0_divide 30 = .ok (.i2l, 1) := by decide +kernel
theorem dX0_divide_31 : decode cX0_divide 31 = .ok (.lor, 1) := by decide +kernel
theorem dX0_divide_32 : decode cX0_divide 32 = .ok (.lstore_n 2, 1) := by decide +kernel
theorem dX0_divide_33 : decode cX0_divide 33 = .ok (.aload_n 0, 1) := by decide +kernel
theorem dX0_divide_34 : decode cX0_divide 34 = .ok (.getfield 9, 3) := by decide +kernel
theorem dX0_divide_37 : decode cX0_divide 37 = .ok (.iload 4, 2) := by decide +kernel
theorem dX0_divide_39 : decode cX0_divide 39 = .ok (.lload_n 2, 1) := by decide +kernel
theorem dX0_divide_40 : decode cX0_divide 40 = .ok (.iload_n 1, 1) := by decide +kernel
theorem dX0_divide_41 : decode cX0_divide 41 = .ok (.i2l, 1) := by decide +kernel
theorem dX0_divide_42 : decode cX0_divide 42 = .ok (.ldiv, 1) := by decide +kernel
theorem dX0_divide_43 : decode cX0_divide 43 = .ok (.l2i, 1) := by decide +kernel
theorem dX0_divide_44 : decode cX0_divide 44 = .ok (.iastore, 1) := by decide +kernel
theorem dX0_divide_45 : decode cX0_divide 45 = .ok (.lload_n 2, 1) := by decide +kernel
theorem dX0_divide_46 : decode cX0_divide 46 = .ok (.iload_n 1, 1) := by decide +kernel
theorem dX0_divide_47 : decode cX0_divide 47 = .ok (.i2l, 1) := by decide +kernel
theorem dX0_divide_48 : decode cX0_divide 48 = .ok (.lrem, 1) := by decide +kernel
theorem dX0_divide_49 : decode cX0_divide 49 = .ok (.lstore_n 2, 1) := by decide +kernel
theorem dX0_divide_50 : decode cX0_divide 50 = .ok (.iinc 4 (-1), 3) := by decide +kernel
theorem dX0_divide_53 : decode cX0_divide 53 = .ok (.goto (-43), 3) := by decide +kernel
theorem dX0_divide_56 : decode cX0_divide 56 = .ok (.aload_n 0, 1) := by decide +kernel
theorem dX0_divide_57 : decode cX0_divide 57 = .ok (.getfield 13, 3) := by decide +kernel
theorem dX0_divide_60 : decode cX0_divide 60 = .ok (.ifCond .le 30, 3) := by decide +kernel
theorem dX0_divide_63 : decode cX0_divide 63 = .ok (.aload_n 0, 1) := by decide +kernel
theorem dX0_divide_64 : decode cX0_divide 64 = .ok (.getfield 9, 3) := by decide +kernel
theorem dX0_divide_67 : decode cX0_divide 67 = .ok (.aload_n 0, 1) := by decide +kernel
theorem dX0_divide_68 : decode cX0_divide 68 = .ok (.getfield 13, 3) := by decide +kernel
theorem dX0_divide_71 : decode cX0_divide 71 = .ok (.iconst 1, 1) := by decide +kernel
theorem dX0_divide_72 : decode cX0_divide 72 = .ok (.isub, 1) := by decide +kernel
theorem dX0_divide_73 : decode cX0_divide 73 = .ok (.iaload, 1) := by decide +kernel
theorem dX0_divide_74 : decode cX0_divide 74 = .ok (.ifCond .ne 16, 3) := by decide +kernel
theorem dX0_divide_77 : decode cX0_divide 77 = .ok (.aload_n 0, 1) := by decide +kernel
theorem dX0_divide_78 : decode cX0_divide 78 = .ok (.dup, 1) := by decide +kernel
theorem dX0_divide_79 : decode cX0_divide 79 = .ok (.getfield 13, 3) := by decide +kernel
theorem dX0_divide_82 : decode cX0_divide 82 = .ok (.iconst 1, 1) := by decide +kernel
theorem dX0_divide_83 : decode cX0_divide 83 = .ok (.isub, 1) := by decide +kernel
theorem dX0_divide_84 : decode cX0_divide 84 = .ok (.putfield 13, 3) := by decide +kernel
theorem dX0_divide_87 : decode cX0_divide 87 = .ok (.goto (-31), 3) := by decide +kernel
theorem dX0_divide_90 : decode cX0_divide 90 = .ok (.return_, 1) := by decide +kernel
theorem dX0_isAbove_0 : decode cX0_isAbove 0 = .ok (.aload_n 0, 1) := by decide +kernel
theorem dX0_isAbove_1 : decode cX0_isAbove 1 = .ok (.getfield 13, 3) := by decide +kernel
theorem dX0_isAbove_4 : decode cX0_isAbove 4 = .ok (.aload_n 1, 1) := by decide +kernel
theorem dX0_isAbove_5 : decode cX0_isAbove 5 = .ok (.getfield 13, 3) := by decide +kernel
theorem dX0_isAbove_8 : decode cX0_isAbove 8 = .ok (.if_icmp .eq 20, 3) := by decide +kernel
theorem dX0_isAbove_11 : decode cX0_isAbove 11 = .ok (.aload_n 0, 1) := by decide +kernel
theorem dX0_isAbove_12 : decode cX0_isAbove 12 = .ok (.getfield 13, 3) := by decide +kernel
theorem dX0_isAbove_15 : decode cX0_isAbove 15 = .ok (.aload_n 1, 1) := by decide +kernel
theorem dX0_isAbove_16 : decode cX0_isAbove 16 = .ok (.getfield 13, 3) := by decide +kernel
theorem dX0_isAbove_19 : decode cX0_isAbove 19 = .ok (.if_icmp .le 7, 3) := by decide +kernel
theorem dX0_isAbove_22 : decode cX0_isAbove 22 = .ok (.iconst 1, 1) := by decide +kernel
theorem dX0_isAbove_23 : decode cX0_isAbove 23 = .ok (.goto 4, 3) := by decide +kernel
theorem dX0_isAbove_26 : decode cX0_isAbove 26 = .ok (.iconst 0, 1) := by decide +kernel
theorem dX0_isAbove_27 : decode cX0_isAbove 27 = .ok (.ireturn, 1) := by decide +kernel
theorem dX0_isAbove_28 : decode cX0_isAbove 28 = .ok (.aload_n 0, 1) := by decide +kernel
theorem dX0_isAbove_29 : decode cX0_isAbove 29 = .ok (.getfield 13, 3) := by decide +kernel
theorem dX0_isAbove_32 : decode cX0_isAbove 32 = .ok (.iconst 1, 1) := by decide +kernel
theorem dX0_isAbove_33 : decode cX0_isAbove 33 = .ok (.isub, 1) := by decide +kernel
theorem dX0_isAbove_34 : decode cX0_isAbove 34 = .ok (.istore_n 2, 1) := by decide +kernel
theorem dX0_isAbove_35 : decode cX0_isAbove 35 = .ok (.iload_n 2, 1) := by decide +kernel
theorem dX0_isAbove_36 : decode cX0_isAbove 36 = .ok (.ifCond .lt 45, 3) := by decide +kernel
theorem dX0_isAbove_39 : decode cX0_isAbove 39 = .ok (.aload_n 0, 1) := by decide +kernel
theorem dX0_isAbove_40 : decode cX0_isAbove 40 = .ok (.getfield 9, 3) := by decide +kernel
theorem dX0_isAbove_43 : decode cX0_isAbove 43 = .ok (.iload_n 2, 1) := by decide +kernel
theorem dX0_isAbove_44 : decode cX0_isAbove 44 = .ok (.iaload, 1) := by decide +kernel
theorem dX0_isAbove_45 : decode cX0_isAbove 45 = .ok (.aload_n 1, 1) := by decide +kernel
theorem dX0_isAbove_46 : decode cX0_isAbove 46 = .ok (.getfield 9, 3) := by decide +kernel
theorem dX0_isAbove_49 : decode cX0_isAbove 49 = .ok (.iload_n 2, 1) := by decide +kernel
theorem dX0_isAbove_50 : decode cX0_isAbove 50 = .ok (.iaload, 1) := by decide +kernel
theorem dX0_isAbove_51 : decode cX0_isAbove 51 = .ok (.if_icmp .eq 24, 3) := by decide +kernel
theorem dX0_isAbove_54 : decode cX0_isAbove 54 = .ok (.aload_n 0, 1) := by decide +kernel
theorem dX0_isAbove_55 : decode cX0_isAbove 55 = .ok (.getfield 9, 3) := by decide +kernel
theorem dX0_isAbove_58 : decode cX0_isAbove 58 = .ok (.iload_n 2, 1) := by decide +kernel
theorem dX0_isAbove_59 : decode cX0_isAbove 59 = .ok (.iaload, 1) := by decide +kernel
theorem dX0_isAbove_60 : decode cX0_isAbove 60 = .ok (.aload_n 1, 1) := by decide +kernel
theorem dX0_isAbove_61 : decode cX0_isAbove 61 = .ok (.getfield 9, 3) := by decide +kernel
theorem dX0_isAbove_64 : decode cX0_isAbove 64 = .ok (.iload_n 2, 1) := by decide +kernel
theorem dX0_isAbove_65 : decode cX0_isAbove 65 = .ok (.iaload, 1) := by decide +kernel
theorem dX0_isAbove_66 : decode cX0_isAbove 66 = .ok (.if_icmp .le 7, 3) := by decide +kernel
theorem dX0_isAbove_69 : decode cX0_isAbove 69 = .ok (.iconst 1, 1) := by decide +kernel
theorem dX0_isAbove_70 : decode cX0_isAbove 70 = .ok (.goto 4, 3) := by decide +kernel
theorem dX0_isAbove_73 : decode cX0_isAbove 73 = .ok (.iconst 0, 1) := by decide +kernel
theorem dX0_isAbove_74 : decode cX0_isAbove 74 = .ok (.ireturn, 1) := by decide +kernel
theorem dX0_isAbove_75 : decode cX0_isAbove 75 = .ok (.iinc 2 (-1), 3) := by decide +kernel
theorem dX0_isAbove_78 : decode cX0_isAbove 78 = .ok (.goto (-43), 3) := by decide +kernel
theorem dX0_isAbove_81 : decode cX0_isAbove 81 = .ok (.iconst 0, 1) := by decide +kernel
theorem dX0_isAbove_82 : decode cX0_isAbove 82 = .ok (.ireturn, 1) := by decide +kernel
theorem dX1_init_0 : decode cX1_init 0 = .ok (.aload_n 0, 1) := by decide +kernel
theorem dX1_init_1 : decode cX1_init 1 = .ok (.invokespecial 3, 3) := by decide +kernel
theorem dX1_init_4 : decode cX1_init 4 = .ok (.aload_n 0, 1) := by decide +kernel
theorem dX1_init_5 : decode cX1_init 5 = .ok (.iconst 4, 1) := by decide +kernel
theorem dX1_init_6 : decode cX1_init 6 = .ok (.anewarray 9, 3) := by decide +kernel
theorem dX1_init_9 : decode cX1_init 9 = .ok (.putfield 11, 3) := by decide +kernel
theorem dX1_init_12 : decode cX1_init 12 = .ok (.aload_n 0, 1) := by decide +kernel
theorem dX1_init_13 : decode cX1_init 13 = .ok (.new 9, 3) := by decide +kernel
theorem dX1_init_16 : decode cX1_init 16 = .ok (.dup, 1) := by decide +kernel
theorem dX1_init_17 : decode cX1_init 17 = .ok (.invokespecial 17, 3) := by decide +kernel
theorem dX1_init_20 : decode cX1_init 20 = .ok (.putfield 18, 3) := by decide +kernel
theorem dX1_init_23 : decode cX1_init 23 = .ok (.aload_n 0, 1) := by decide +kernel
theorem dX1_init_24 : decode cX1_init 24 = .ok (.aload_n 1, 1) := by decide +kernel
theorem dX1_init_25 : decode cX1_init 25 = .ok (.putfield 22, 3) := by decide +kernel
theorem dX1_init_28 : decode cX1_init 28 = .ok (.aload_n 0, 1) := by decide +kernel
theorem dX1_init_29 : decode cX1_init 29 = .ok (.aload_n 2, 1) := by decide +kernel
theorem dX1_init_30 : decode cX1_init 30 = .ok (.putfield 26, 3) := by decide +kernel
theorem dX1_init_33 : decode cX1_init 33 = .ok (.aload_n 0, 1) := by decide +kernel
theorem dX1_init_34 : decode cX1_init 34 = .ok (.aload_n 3, 1) := by decide +kernel
theorem dX1_init_35 : decode cX1_init 35 = .ok (.putfield 30, 3) := by decide +kernel
theorem dX1_init_38 : decode cX1_init 38 = .ok (.iconst 0, 1) := by decide +kernel
theorem dX1_init_39 : decode cX1_init 39 = .ok (.istore 4, 2) := by decide +kernel
theorem dX1_init_41 : decode cX1_init 41 = .ok (.iload 4, 2) := by decide +kernel
theorem dX1_init_43 : decode cX1_init 43 = .ok (.iconst 4, 1) := by decide +kernel
theorem dX1_init_44 : decode cX1_init 44 = .ok (.if_icmp .ge 23, 3) := by decide +kernel
theorem dX1_init_47 : decode cX1_init 47 = .ok (.aload_n 0, 1) := by decide +kernel
theorem dX1_init_48 : decode cX1_init 48 = .ok (.getfield 11, 3) := by decide +kernel
theorem dX1_init_51 : decode cX1_init 51 = .ok (.iload 4, 2) := by decide +kernel
theorem dX1_init_53 : decode cX1_init 53 = .ok (.new 9, 3) := by decide +kernel
theorem dX1_init_56 : decode cX1_init 56 = .ok (.dup, 1) := by decide +kernel
theorem dX1_init_57 : decode cX1_init 57 = .ok (.invokespecial 17, 3) := by decide +kernel
theorem dX1_init_60 : decode cX1_init 60 = .ok (.aastore, 1) := by decide +kernel
theorem dX1_init_61 : decode cX1_init 61 = .ok (.iinc 4 1, 3) := by decide +kernel
theorem dX1_init_64 : decode cX1_init 64 = .ok (.goto (-23), 3) := by decide +kernel
theorem dX1_init_67 : decode cX1_init 67 = .ok (.return_, 1) := by decide +kernel
theorem dX1_wordsFor_0 : decode cX1_wordsFor 0 = .ok (.iconst 0, 1) := by decide +kernel
theorem dX1_wordsFor_1 : decode cX1_wordsFor 1 = .ok (.istore_n 2, 1) := by decide +kernel
theorem dX1_wordsFor_2 : decode cX1_wordsFor 2 = .ok (.iconst 0, 1) := by decide +kernel
theorem dX1_wordsFor_3 : decode cX1_wordsFor 3 = .ok (.istore_n 3, 1) := by decide +kernel
theorem dX1_wordsFor_4 : decode cX1_wordsFor 4 = .ok (.iload_n 3, 1) := by decide +kernel
theorem dX1_wordsFor_5 : decode cX1_wordsFor 5 = .ok (.aload_n 0, 1) := by decide +kernel
theorem dX1_wordsFor_6 : decode cX1_wordsFor 6 = .ok (.getfield 22, 3) := by decide +kernel
theorem dX1_wordsFor_9 : decode cX1_wordsFor 9 = .ok (.getfield 34, 3) := by decide +kernel
theorem dX1_wordsFor_12 : decode cX1_wordsFor 12 = .ok (.if_icmp .ge 34, 3) := by decide +kernel
theorem dX1_wordsFor_15 : decode cX1_wordsFor 15 = .ok (.aload_n 0, 1) := by decide +kernel
theorem dX1_wordsFor_16 : decode cX1_wordsFor 16 = .ok (.getfield 22, 3) := by decide +kernel
theorem dX1_wordsFor_19 : decode cX1_wordsFor 19 = .ok (.getfield 40, 3) := by decide +kernel
theorem dX1_wordsFor_22 : decode cX1_wordsFor 22 = .ok (.iload_n 3, 1) := by decide +kernel
theorem dX1_wordsFor_23 : decode cX1_wordsFor 23 = .ok (.iaload, 1) := by decide +kernel
theorem dX1_wordsFor_24 : decode cX1_wordsFor 24 = .ok (.iload_n 1, 1) := by decide +kernel
theorem dX1_wordsFor_25 : decode cX1_wordsFor 25 = .ok (.if_icmp .ne 15, 3) := by decide +kernel
theorem dX1_wordsFor_28 : decode cX1_wordsFor 28 = .ok (.iload_n 2, 1) := by decide +kernel
theorem dX1_wordsFor_29 : decode cX1_wordsFor 29 = .ok (.aload_n 0, 1) := by decide +kernel
theorem dX1_wordsFor_30 : decode cX1_wordsFor 30 = .ok (.getfield 22, 3) := by decide +kernel
theorem dX1_wordsFor_33 : decode cX1_wordsFor 33 = .ok (.getfield 43, 3) := by decide +kernel
theorem dX1_wordsFor_36 : decode cX1_wordsFor 36 = .ok (.iload_n 3, 1) := by decide +kernel
theorem dX1_wordsFor_37 : decode cX1_wordsFor 37 = .ok (.iaload, 1) := by decide +kernel
theorem dX1_wordsFor_38 : decode cX1_wordsFor 38 = .ok (.iadd, 1) := by decide +kernel
theorem dX1_wordsFor_39 : decode cX1_wordsFor 39 = .ok (.istore_n 2, 1) := by decide +kernel
theorem dX1_wordsFor_40 : decode cX1_wordsFor 40 = .ok (.iinc 3 1, 3) := by decide +kernel
theorem dX1_wordsFor_43 : decode cX1_wordsFor 43 = .ok (.goto (-39), 3) := by decide +kernel
theorem dX1_wordsFor_46 : decode cX1_wordsFor 46 = .ok (.iload_n 2, 1) := by decide +kernel
theorem dX1_wordsFor_47 : decode cX1_wordsFor 47 = .ok (.ireturn, 1) := by decide +kernel
theorem dX1_takeFor_0 : decode cX1_takeFor 0 = .ok (.aload_n 0, 1) := by decide +kernel
theorem dX1_takeFor_1 : decode cX1_takeFor 1 = .ok (.getfield 26, 3) := by decide +kernel
theorem dX1_takeFor_4 : decode cX1_takeFor 4 = .ok (.iload_n 1, 1) := by decide +kernel
theorem dX1_takeFor_5 : decode cX1_takeFor 5 = .ok (.invokevirtual 46, 3) := by decide +kernel
theorem dX1_takeFor_8 : decode cX1_takeFor 8 = .ok (.iconst 0, 1) := by decide +kernel
theorem dX1_takeFor_9 : decode cX1_takeFor 9 = .ok (.istore_n 2, 1) := by decide +kernel
theorem dX1_takeFor_10 : decode cX1_takeFor 10 = .ok (.iload_n 2, 1) := by decide +kernel
theorem dX1_takeFor_11 : decode cX1_takeFor 11 = .ok (.iconst 4, 1) := by decide +kernel
theorem dX1_takeFor_12 : decode cX1_takeFor 12 = .ok (.if_icmp .ge 25, 3) := by decide +kernel
theorem dX1_takeFor_15 : decode cX1_takeFor 15 = .ok (.aload_n 0, 1) := by decide +kernel
theorem dX1_takeFor_16 : decode cX1_takeFor 16 = .ok (.getfield 11, 3) := by decide +kernel
theorem dX1_takeFor_19 : decode cX1_takeFor 19 = .ok (.iload_n 2, 1) := by decide +kernel
theorem dX1_takeFor_20 : decode cX1_takeFor 20 = .ok (.aaload, 1) := by decide +kernel
theorem dX1_takeFor_21 : decode cX1_takeFor 21 = .ok (.aload_n 0, 1) := by decide +kernel
theorem dX1_takeFor_22 : decode cX1_takeFor 22 = .ok (.getfield 30, 3) := by decide +kernel
theorem dX1_takeFor_25 : decode cX1_takeFor 25 = .ok (.iload_n 2, 1) := by decide +kernel
theorem dX1_takeFor_26 : decode cX1_takeFor 26 = .ok (.iaload, 1) := by decide +kernel
theorem dX1_takeFor_27 : decode cX1_takeFor 27 = .ok (.i2l, 1) := by decide +kernel
theorem dX1_takeFor_28 : decode cX1_takeFor 28 = .ok (.invokevirtual 52, 3) := by decide +kernel
theorem dX1_takeFor_31 : decode cX1_takeFor 31 = .ok (.iinc 2 1, 3) := by decide +kernel
theorem dX1_takeFor_34 : decode cX1_takeFor 34 = .ok (.goto (-24), 3) := by decide +kernel
theorem dX1_takeFor_37 : decode cX1_takeFor 37 = .ok (.iconst 0, 1) := by decide +kernel
theorem dX1_takeFor_38 : decode cX1_takeFor 38 = .ok (.istore_n 2, 1) := by decide +kernel
theorem dX1_takeFor_39 : decode cX1_takeFor 39 = .ok (.iload_n 2, 1) := by decide +kernel
theorem dX1_takeFor_40 : decode cX1_takeFor 40 = .ok (.aload_n 0, 1) := by decide +kernel
theorem dX1_takeFor_41 : decode cX1_takeFor 41 = .ok (.getfield 22, 3) := by decide +kernel
theorem dX1_takeFor_44 : decode cX1_takeFor 44 = .ok (.getfield 34, 3) := by decide +kernel
theorem dX1_takeFor_47 : decode cX1_takeFor 47 = .ok (.if_icmp .ge 27, 3) := by decide +kernel
theorem dX1_takeFor_50 : decode cX1_takeFor 50 = .ok (.aload_n 0, 1) := by decide +kernel
theorem dX1_takeFor_51 : decode cX1_takeFor 51 = .ok (.getfield 22, 3) := by decide +kernel
theorem dX1_takeFor_54 : decode cX1_takeFor 54 = .ok (.getfield 40, 3) := by decide +kernel
theorem dX1_takeFor_57 : decode cX1_takeFor 57 = .ok (.iload_n 2, 1) := by decide +kernel
theorem dX1_takeFor_58 : decode cX1_takeFor 58 = .ok (.iaload, 1) := by decide +kernel
theorem dX1_takeFor_59 : decode cX1_takeFor 59 = .ok (.iload_n 1, 1) := by decide +kernel
theorem dX1_takeFor_60 : decode cX1_takeFor 60 = .ok (.if_icmp .ne 8, 3) := by decide +kernel
theorem dX1_takeFor_63 : decode cX1_takeFor 63 = .ok (.aload_n 0, 1) := by decide +kernel
theorem dX1_takeFor_64 : decode cX1_takeFor 64 = .ok (.iload_n 2, 1) := by decide +kernel
theorem dX1_takeFor_65 : decode cX1_takeFor 65 = .ok (.invokevirtual 56, 3) := by decide +kernel
theorem dX1_takeFor_68 : decode cX1_takeFor 68 = .ok (.iinc 2 1, 3) := by decide +kernel
theorem dX1_takeFor_71 : decode cX1_takeFor 71 = .ok (.goto (-32), 3) := by decide +kernel
theorem dX1_takeFor_74 : decode cX1_takeFor 74 = .ok (.aload_n 0, 1) := by decide +kernel
theorem dX1_takeFor_75 : decode cX1_takeFor 75 = .ok (.getfield 18, 3) := by decide +kernel
theorem dX1_takeFor_78 : decode cX1_takeFor 78 = .ok (.lconst 0, 1) := by decide +kernel
theorem dX1_takeFor_79 : decode cX1_takeFor 79 = .ok (.invokevirtual 52, 3) := by decide +kernel
theorem dX1_takeFor_82 : decode cX1_takeFor 82 = .ok (.iconst 0, 1) := by decide +kernel
theorem dX1_takeFor_83 : decode cX1_takeFor 83 = .ok (.istore_n 2, 1) := by decide +kernel
theorem dX1_takeFor_84 : decode cX1_takeFor 84 = .ok (.iload_n 2, 1) := by decide +kernel
theorem dX1_takeFor_85 : decode cX1_takeFor 85 = .ok (.iconst 4, 1) := by decide +kernel
theorem dX1_takeFor_86 : decode cX1_takeFor 86 = .ok (.if_icmp .ge 22, 3) := by decide +kernel
theorem dX1_takeFor_89 : decode cX1_takeFor 89 = .ok (.aload_n 0, 1) := by decide +kernel
theorem dX1_takeFor_90 : decode cX1_takeFor 90 = .ok (.getfield 18, 3) := by decide +kernel
theorem dX1_takeFor_93 : decode cX1_takeFor 93 = .ok (.aload_n 0, 1) := by decide +kernel
theorem dX1_takeFor_94 : decode cX1_takeFor 94 = .ok (.getfield 11, 3) := by decide +kernel
theorem dX1_takeFor_97 : decode cX1_takeFor 97 = .ok (.iload_n 2, 1) := by decide +kernel
theorem dX1_takeFor_98 : decode cX1_takeFor 98 = .ok (.aaload, 1) := by decide +kernel
theorem dX1_takeFor_99 : decode cX1_takeFor 99 = .ok (.invokevirtual 59, 3) := by decide +kernel
theorem dX1_takeFor_102 : decode cX1_takeFor 102 = .ok (.iinc 2 1, 3) := by decide +kernel
theorem dX1_takeFor_105 : decode cX1_takeFor 105 = .ok (.goto (-21), 3) := by decide +kernel
theorem dX1_takeFor_108 : decode cX1_takeFor 108 = .ok (.return_, 1) := by decide +kernel
theorem dX1_takeLetter_0 : decode cX1_takeLetter 0 = .ok (.aload_n 0, 1) := by decide +kernel
theorem dX1_takeLetter_1 : decode cX1_takeLetter 1 = .ok (.getfield 22, 3) := by decide +kernel
theorem dX1_takeLetter_4 : decode cX1_takeLetter 4 = .ok (.getfield 63, 3) := by decide +kernel
theorem dX1_takeLetter_7 : decode cX1_takeLetter 7 = .ok (.iload_n 1, 1) := by decide +kernel
theorem dX1_takeLetter_8 : decode cX1_takeLetter 8 = .ok (.iaload, 1) := by decide +kernel
theorem dX1_takeLetter_9 : decode cX1_takeLetter 9 = .ok (.istore_n 2, 1) := by decide +kernel
theorem dX1_takeLetter_10 : decode cX1_takeLetter 10 = .ok (.iconst 0, 1) := by decide +kernel
theorem dX1_takeLetter_11 : decode cX1_takeLetter 11 = .ok (.istore_n 3, 1) := by decide +kernel
theorem dX1_takeLetter_12 : decode cX1_takeLetter 12 = .ok (.iload_n 3, 1) := by decide +kernel
theorem dX1_takeLetter_13 : decode cX1_takeLetter 13 = .ok (.aload_n 0, 1) := by decide +kernel
theorem dX1_takeLetter_14 : decode cX1_takeLetter 14 = .ok (.getfield 22, 3) := by decide +kernel
theorem dX1_takeLetter_17 : decode cX1_takeLetter 17 = .ok (.getfield 43, 3) := by decide +kernel
theorem dX1_takeLetter_20 : decode cX1_takeLetter 20 = .ok (.iload_n 1, 1) := by decide +kernel
theorem dX1_takeLetter_21 : decode cX1_takeLetter 21 = .ok (.iaload, 1) := by decide +kernel
theorem dX1_takeLetter_22 : decode cX1_takeLetter 22 = .ok (.if_icmp .ge 52, 3) := by decide +kernel
theorem dX1_takeLetter_25 : decode cX1_takeLetter 25 = .ok (.iconst 0, 1) := by decide +kernel
theorem dX1_takeLetter_26 : decode cX1_takeLetter 26 = .ok (.istore 4, 2) := by decide +kernel
theorem dX1_takeLetter_28 : decode cX1_takeLetter 28 = .ok (.iload 4, 2) := by decide +kernel
theorem dX1_takeLetter_30 : decode cX1_takeLetter 30 = .ok (.iconst 4, 1) := by decide +kernel
theorem dX1_takeLetter_31 : decode cX1_takeLetter 31 = .ok (.if_icmp .ge 37, 3) := by decide +kernel
theorem dX1_takeLetter_34 : decode cX1_takeLetter 34 = .ok (.aload_n 0, 1) := by decide +kernel
theorem dX1_takeLetter_35 : decode cX1_takeLetter 35 = .ok (.getfield 11, 3) := by decide +kernel
theorem dX1_takeLetter_38 : decode cX1_takeLetter 38 = .ok (.iload 4, 2) := by decide +kernel
theorem dX1_takeLetter_40 : decode cX1_takeLetter 40 = .ok (.aaload, 1) := by decide +kernel
theorem dX1_takeLetter_41 : decode cX1_takeLetter 41 = .ok (.aload_n 0, 1) := by decide +kernel
theorem dX1_takeLetter_42 : decode cX1_takeLetter 42 = .ok (.iload_n 2, 1) := by decide +kernel
theorem dX1_takeLetter_43 : decode cX1_takeLetter 43 = .ok (.aload_n 0, 1) := by decide +kernel
theorem dX1_takeLetter_44 : decode cX1_takeLetter 44 = .ok (.getfield 22, 3) := by decide +kernel
theorem dX1_takeLetter_47 : decode cX1_takeLetter 47 = .ok (.getfield 66, 3) := by decide +kernel
theorem dX1_takeLetter_50 : decode cX1_takeLetter 50 = .ok (.iload_n 1, 1) := by decide +kernel
theorem dX1_takeLetter_51 : decode cX1_takeLetter 51 = .ok (.aaload, 1) := by decide +kernel
theorem dX1_takeLetter_52 : decode cX1_takeLetter 52 = .ok (.iload_n 3, 1) := by decide +kernel
theorem dX1_takeLetter_53 : decode cX1_takeLetter 53 = .ok (.iaload, 1) := by decide +kernel
theorem dX1_takeLetter_54 : decode cX1_takeLetter 54 = .ok (.iload 4, 2) := by decide +kernel
theorem dX1_takeLetter_56 : decode cX1_takeLetter 56 = .ok (.invokevirtual 70, 3) := by decide +kernel
theorem dX1_takeLetter_59 : decode cX1_takeLetter 59 = .ok (.invokevirtual 74, 3) := by decide +kernel
theorem dX1_takeLetter_62 : decode cX1_takeLetter 62 = .ok (.iinc 4 1, 3) := by decide +kernel
theorem dX1_takeLetter_65 : decode cX1_takeLetter 65 = .ok (.goto (-37), 3) := by decide +kernel
theorem dX1_takeLetter_68 : decode cX1_takeLetter 68 = .ok (.iinc 3 1, 3) := by decide +kernel
theorem dX1_takeLetter_71 : decode cX1_takeLetter 71 = .ok (.goto (-59), 3) := by decide +kernel
theorem dX1_takeLetter_74 : decode cX1_takeLetter 74 = .ok (.return_, 1) := by decide +kernel
theorem dX1_factorOf_0 : decode cX1_factorOf 0 = .ok (.aload_n 0, 1) := by decide +kernel
theorem dX1_factorOf_1 : decode cX1_factorOf 1 = .ok (.getfield 26, 3) := by decide +kernel
theorem dX1_factorOf_4 : decode cX1_factorOf 4 = .ok (.iload_n 1, 1) := by decide +kernel
theorem dX1_factorOf_5 : decode cX1_factorOf 5 = .ok (.iload_n 2, 1) := by decide +kernel
theorem dX1_factorOf_6 : decode cX1_factorOf 6 = .ok (.iload_n 3, 1) := by decide +kernel
theorem dX1_factorOf_7 : decode cX1_factorOf 7 = .ok (.invokevirtual 77, 3) := by decide +kernel
theorem dX1_factorOf_10 : decode cX1_factorOf 10 = .ok (.lstore 4, 2) := by decide +kernel
theorem dX1_factorOf_12 : decode cX1_factorOf 12 = .ok (.iconst 0, 1) := by decide +kernel
theorem dX1_factorOf_13 : decode cX1_factorOf 13 = .ok (.istore 6, 2) := by decide +kernel
theorem dX1_factorOf_15 : decode cX1_factorOf 15 = .ok (.iload 6, 2) := by decide +kernel
theorem dX1_factorOf_17 : decode cX1_factorOf 17 = .ok (.iconst 4, 1) := by decide +kernel
theorem dX1_factorOf_18 : decode cX1_factorOf 18 = .ok (.if_icmp .ge 30, 3) := by decide +kernel
theorem dX1_factorOf_21 : decode cX1_factorOf 21 = .ok (.iload 6, 2) := by decide +kernel
theorem dX1_factorOf_23 : decode cX1_factorOf 23 = .ok (.iload_n 3, 1) := by decide +kernel
theorem dX1_factorOf_24 : decode cX1_factorOf 24 = .ok (.if_icmp .eq 18, 3) := by decide +kernel
theorem dX1_factorOf_27 : decode cX1_factorOf 27 = .ok (.lload 4, 2) := by decide +kernel
theorem dX1_factorOf_29 : decode cX1_factorOf 29 = .ok (.aload_n 0, 1) := by decide +kernel
theorem dX1_factorOf_30 : decode cX1_factorOf 30 = .ok (.getfield 26, 3) := by decide +kernel
theorem dX1_factorOf_33 : decode cX1_factorOf 33 = .ok (.iload_n 1, 1) := by decide +kernel
theorem dX1_factorOf_34 : decode cX1_factorOf 34 = .ok (.iload 6, 2) := by decide +kernel
theorem dX1_factorOf_36 : decode cX1_factorOf 36 = .ok (.invokevirtual 80, 3) := by decide +kernel
theorem dX1_factorOf_39 : decode cX1_factorOf 39 = .ok (.lmul, 1) := by decide +kernel
theorem dX1_factorOf_40 : decode cX1_factorOf 40 = .ok (.lstore 4, 2) := by decide +kernel
theorem dX1_factorOf_42 : decode cX1_factorOf 42 = .ok (.iinc 6 1, 3) := by decide +kernel
theorem dX1_factorOf_45 : decode cX1_factorOf 45 = .ok (.goto (-30), 3) := by decide +kernel
theorem dX1_factorOf_48 : decode cX1_factorOf 48 = .ok (.lload 4, 2) := by decide +kernel
theorem dX1_factorOf_50 : decode cX1_factorOf 50 = .ok (.lreturn, 1) := by decide +kernel
theorem dX1_greatest_0 : decode cX1_greatest 0 = .ok (.iconst 0, 1) := by decide +kernel
theorem dX1_greatest_1 : decode cX1_greatest 1 = .ok (.istore_n 1, 1) := by decide +kernel
theorem dX1_greatest_2 : decode cX1_greatest 2 = .ok (.iconst 1, 1) := by decide +kernel
theorem dX1_greatest_3 : decode cX1_greatest 3 = .ok (.istore_n 2, 1) := by decide +kernel
theorem dX1_greatest_4 : decode cX1_greatest 4 = .ok (.iload_n 2, 1) := by decide +kernel
theorem dX1_greatest_5 : decode cX1_greatest 5 = .ok (.iconst 4, 1) := by decide +kernel
theorem dX1_greatest_6 : decode cX1_greatest 6 = .ok (.if_icmp .ge 29, 3) := by decide +kernel
theorem dX1_greatest_9 : decode cX1_greatest 9 = .ok (.aload_n 0, 1) := by decide +kernel
theorem dX1_greatest_10 : decode cX1_greatest 10 = .ok (.getfield 11, 3) := by decide +kernel
theorem dX1_greatest_13 : decode cX1_greatest 13 = .ok (.iload_n 2, 1) := by decide +kernel
theorem dX1_greatest_14 : decode cX1_greatest 14 = .ok (.aaload, 1) := by decide +kernel
theorem dX1_greatest_15 : decode cX1_greatest 15 = .ok (.aload_n 0, 1) := by decide +kernel
theorem dX1_greatest_16 : decode cX1_greatest 16 = .ok (.getfield 11, 3) := by decide +kernel
theorem dX1_greatest_19 : decode cX1_greatest 19 = .ok (.iload_n 1, 1) := by decide +kernel
theorem dX1_greatest_20 : decode cX1_greatest 20 = .ok (.aaload, 1) := by decide +kernel
theorem dX1_greatest_21 : decode cX1_greatest 21 = .ok (.invokevirtual 84, 3) := by decide +kernel
theorem dX1_greatest_24 : decode cX1_greatest 24 = .ok (.ifCond .eq 5, 3) := by decide +kernel
theorem dX1_greatest_27 : decode cX1_greatest 27 = .ok (.iload_n 2, 1) := by decide +kernel
theorem dX1_greatest_28 : decode cX1_greatest 28 = .ok (.istore_n 1, 1) := by decide +kernel
theorem dX1_greatest_29 : decode cX1_greatest 29 = .ok (.iinc 2 1, 3) := by decide +kernel
theorem dX1_greatest_32 : decode cX1_greatest 32 = .ok (.goto (-28), 3) := by decide +kernel
theorem dX1_greatest_35 : decode cX1_greatest 35 = .ok (.iload_n 1, 1) := by decide +kernel
theorem dX1_greatest_36 : decode cX1_greatest 36 = .ok (.ireturn, 1) := by decide +kernel
theorem dX2_init_0 : decode cX2_init 0 = .ok (.aload_n 0, 1) := by decide +kernel
theorem dX2_init_1 : decode cX2_init 1 = .ok (.invokespecial 3, 3) := by decide +kernel
theorem dX2_init_4 : decode cX2_init 4 = .ok (.aload_n 0, 1) := by decide +kernel
theorem dX2_init_5 : decode cX2_init 5 = .ok (.bipush 6, 2) := by decide +kernel
theorem dX2_init_7 : decode cX2_init 7 = .ok (.newarray .int, 2) := by decide +kernel
theorem dX2_init_9 : decode cX2_init 9 = .ok (.putfield 9, 3) := by decide +kernel
theorem dX2_init_12 : decode cX2_init 12 = .ok (.aload_n 0, 1) := by decide +kernel
theorem dX2_init_13 : decode cX2_init 13 = .ok (.bipush 6, 2) := by decide +kernel
theorem dX2_init_15 : decode cX2_init 15 = .ok (.newarray .int, 2) := by decide +kernel
theorem dX2_init_17 : decode cX2_init 17 = .ok (.putfield 15, 3) := by decide +kernel
theorem dX2_init_20 : decode cX2_init 20 = .ok (.aload_n 0, 1) := by decide +kernel
theorem dX2_init_21 : decode cX2_init 21 = .ok (.bipush 64, 2) := by decide +kernel
theorem dX2_init_23 : decode cX2_init 23 = .ok (.newarray .int, 2) := by decide +kernel
theorem dX2_init_25 : decode cX2_init 25 = .ok (.putfield 18, 3) := by decide +kernel
theorem dX2_init_28 : decode cX2_init 28 = .ok (.aload_n 0, 1) := by decide +kernel
theorem dX2_init_29 : decode cX2_init 29 = .ok (.aload_n 1, 1) := by decide +kernel
theorem dX2_init_30 : decode cX2_init 30 = .ok (.putfield 21, 3) := by decide +kernel
theorem dX2_init_33 : decode cX2_init 33 = .ok (.return_, 1) := by decide +kernel
theorem dX2_waysOf_0 : decode cX2_waysOf 0 = .ok (.aload_n 0, 1) := by decide +kernel
theorem dX2_waysOf_1 : decode cX2_waysOf 1 = .ok (.iconst 0, 1) := by decide +kernel
theorem dX2_waysOf_2 : decode cX2_waysOf 2 = .ok (.putfield 25, 3) := by decide +kernel
theorem dX2_waysOf_5 : decode cX2_waysOf 5 = .ok (.iconst 0, 1) := by decide +kernel
theorem dX2_waysOf_6 : decode cX2_waysOf 6 = .ok (.istore_n 2, 1) := by decide +kernel
theorem dX2_waysOf_7 : decode cX2_waysOf 7 = .ok (.iload_n 2, 1) := by decide +kernel
theorem dX2_waysOf_8 : decode cX2_waysOf 8 = .ok (.aload_n 0, 1) := by decide +kernel
theorem dX2_waysOf_9 : decode cX2_waysOf 9 = .ok (.getfield 21, 3) := by decide +kernel
theorem dX2_waysOf_12 : decode cX2_waysOf 12 = .ok (.getfield 29, 3) := by decide +kernel
theorem dX2_waysOf_15 : decode cX2_waysOf 15 = .ok (.if_icmp .ge 47, 3) := by decide +kernel
theorem dX2_waysOf_18 : decode cX2_waysOf 18 = .ok (.iload_n 1, 1) := by decide +kernel
theorem dX2_waysOf_19 : decode cX2_waysOf 19 = .ok (.iload_n 2, 1) := by decide +kernel
theorem dX2_waysOf_20 : decode cX2_waysOf 20 = .ok (.ishr, 1) := by decide +kernel
theorem dX2_waysOf_21 : decode cX2_waysOf 21 = .ok (.iconst 1, 1) := by decide +kernel
theorem dX2_waysOf_22 : decode cX2_waysOf 22 = .ok (.iand, 1) := by decide +kernel
theorem dX2_waysOf_23 : decode cX2_waysOf 23 = .ok (.iconst 1, 1) := by decide +kernel
theorem dX2_waysOf_24 : decode cX2_waysOf 24 = .ok (.if_icmp .ne 32, 3) := by decide +kernel
theorem dX2_waysOf_27 : decode cX2_waysOf 27 = .ok (.aload_n 0, 1) := by decide +kernel
theorem dX2_waysOf_28 : decode cX2_waysOf 28 = .ok (.getfield 25, 3) := by decide +kernel
theorem dX2_waysOf_31 : decode cX2_waysOf 31 = .ok (.bipush 6, 2) := by decide +kernel
theorem dX2_waysOf_33 : decode cX2_waysOf 33 = .ok (.if_icmp .ge 23, 3) := by decide +kernel
theorem dX2_waysOf_36 : decode cX2_waysOf 36 = .ok (.aload_n 0, 1) := by decide +kernel
theorem dX2_waysOf_37 : decode cX2_waysOf 37 = .ok (.getfield 15, 3) := by decide +kernel
theorem dX2_waysOf_40 : decode cX2_waysOf 40 = .ok (.aload_n 0, 1) := by decide +kernel
theorem dX2_waysOf_41 : decode cX2_waysOf 41 = .ok (.getfield 25, 3) := by decide +kernel
theorem dX2_waysOf_44 : decode cX2_waysOf 44 = .ok (.iload_n 2, 1) := by decide +kernel
theorem dX2_waysOf_45 : decode cX2_waysOf 45 = .ok (.iastore, 1) := by decide +kernel
theorem dX2_waysOf_46 : decode cX2_waysOf 46 = .ok (.aload_n 0, 1) := by decide +kernel
theorem dX2_waysOf_47 : decode cX2_waysOf 47 = .ok (.dup, 1) := by decide +kernel
theorem dX2_waysOf_48 : decode cX2_waysOf 48 = .ok (.getfield 25, 3) := by decide +kernel
theorem dX2_waysOf_51 : decode cX2_waysOf 51 = .ok (.iconst 1, 1) := by decide +kernel
theorem dX2_waysOf_52 : decode cX2_waysOf 52 = .ok (.iadd, 1) := by decide +kernel
theorem dX2_waysOf_53 : decode cX2_waysOf 53 = .ok (.putfield 25, 3) := by decide +kernel
theorem dX2_waysOf_56 : decode cX2_waysOf 56 = .ok (.iinc 2 1, 3) := by decide +kernel
theorem dX2_waysOf_59 : decode cX2_waysOf 59 = .ok (.goto (-52), 3) := by decide +kernel
theorem dX2_waysOf_62 : decode cX2_waysOf 62 = .ok (.bipush 63, 2) := by decide +kernel
theorem dX2_waysOf_64 : decode cX2_waysOf 64 = .ok (.istore_n 2, 1) := by decide +kernel
theorem dX2_waysOf_65 : decode cX2_waysOf 65 = .ok (.iload_n 2, 1) := by decide +kernel
theorem dX2_waysOf_66 : decode cX2_waysOf 66 = .ok (.ifCond .lt 20, 3) := by decide +kernel
theorem dX2_waysOf_69 : decode cX2_waysOf 69 = .ok (.aload_n 0, 1) := by decide +kernel
theorem dX2_waysOf_70 : decode cX2_waysOf 70 = .ok (.getfield 18, 3) := by decide +kernel
theorem dX2_waysOf_73 : decode cX2_waysOf 73 = .ok (.iload_n 2, 1) := by decide +kernel
theorem dX2_waysOf_74 : decode cX2_waysOf 74 = .ok (.aload_n 0, 1) := by decide +kernel
theorem dX2_waysOf_75 : decode cX2_waysOf 75 = .ok (.iload_n 2, 1) := by decide +kernel
theorem dX2_waysOf_76 : decode cX2_waysOf 76 = .ok (.invokevirtual 33, 3) := by decide +kernel
theorem dX2_waysOf_79 : decode cX2_waysOf 79 = .ok (.iastore, 1) := by decide +kernel
theorem dX2_waysOf_80 : decode cX2_waysOf 80 = .ok (.iinc 2 (-1), 3) := by decide +kernel
theorem dX2_waysOf_83 : decode cX2_waysOf 83 = .ok (.goto (-18), 3) := by decide +kernel
theorem dX2_waysOf_86 : decode cX2_waysOf 86 = .ok (.aload_n 0, 1) := by decide +kernel
theorem dX2_waysOf_87 : decode cX2_waysOf 87 = .ok (.getfield 18, 3) := by decide +kernel
theorem dX2_waysOf_90 : decode cX2_waysOf 90 = .ok (.iconst 0, 1) := by decide +kernel
theorem dX2_waysOf_91 : decode cX2_waysOf 91 = .ok (.iaload, 1) := by decide +kernel
theorem dX2_waysOf_92 : decode cX2_waysOf 92 = .ok (.ireturn, 1) := by decide +kernel
theorem dX2_waysBehind_0 : decode cX2_waysBehind 0 = .ok (.iload_n 1, 1) := by decide +kernel
theorem dX2_waysBehind_1 : decode cX2_waysBehind 1 = .ok (.invokestatic 37, 3) := by decide +kernel
theorem dX2_waysBehind_4 : decode cX2_waysBehind 4 = .ok (.istore_n 2, 1) := by decide +kernel
theorem dX2_waysBehind_5 : decode cX2_waysBehind 5 = .ok (.iload_n 2, 1) := by decide +kernel
theorem dX2_waysBehind_6 : decode cX2_waysBehind 6 = .ok (.aload_n 0, 1) := by decide +kernel
theorem dX2_waysBehind_7 : decode cX2_waysBehind 7 = .ok (.getfield 25, 3) := by decide +kernel
theorem dX2_waysBehind_10 : decode cX2_waysBehind 10 = .ok (.if_icmp .lt 17, 3) := by decide +kernel
theorem dX2_waysBehind_13 : decode cX2_waysBehind 13 = .ok (.iload_n 2, 1) := by decide +kernel
theorem dX2_waysBehind_14 : decode cX2_waysBehind 14 = .ok (.aload_n 0, 1) := by decide +kernel
theorem dX2_waysBehind_15 : decode cX2_waysBehind 15 = .ok (.getfield 25, 3) := by decide +kernel
theorem dX2_waysBehind_18 : decode cX2_waysBehind 18 = .ok (.if_icmp .ne 7, 3) := by decide +kernel
theorem dX2_waysBehind_21 : decode cX2_waysBehind 21 = .ok (.iconst 1, 1) := by decide +kernel
theorem dX2_waysBehind_22 : decode cX2_waysBehind 22 = .ok (.goto 4, 3) := by decide +kernel
theorem dX2_waysBehind_25 : decode cX2_waysBehind 25 = .ok (.iconst 0, 1) := by decide +kernel
theorem dX2_waysBehind_26 : decode cX2_waysBehind 26 = .ok (.ireturn, 1) := by decide +kernel
theorem dX2_waysBehind_27 : decode cX2_waysBehind 27 = .ok (.iconst 0, 1) := by decide +kernel
theorem dX2_waysBehind_28 : decode cX2_waysBehind 28 = .ok (.istore_n 3, 1) := by decide +kernel
theorem dX2_waysBehind_29 : decode cX2_waysBehind 29 = .ok (.iconst 0, 1) := by decide +kernel
theorem dX2_waysBehind_30 : decode cX2_waysBehind 30 = .ok (.istore 4, 2) := by decide +kernel
theorem dX2_waysBehind_32 : decode cX2_waysBehind 32 = .ok (.iload 4, 2) := by decide +kernel
theorem dX2_waysBehind_34 : decode cX2_waysBehind 34 = .ok (.bipush 6, 2) := by decide +kernel
theorem dX2_waysBehind_36 : decode cX2_waysBehind 36 = .ok (.if_icmp .ge 39, 3) := by decide +kernel
theorem dX2_waysBehind_39 : decode cX2_waysBehind 39 = .ok (.aload_n 0, 1) := by decide +kernel
theorem dX2_waysBehind_40 : decode cX2_waysBehind 40 = .ok (.iload 4, 2) := by decide +kernel
theorem dX2_waysBehind_42 : decode cX2_waysBehind 42 = .ok (.aload_n 0, 1) := by decide +kernel
theorem dX2_waysBehind_43 : decode cX2_waysBehind 43 = .ok (.getfield 15, 3) := by decide +kernel
theorem dX2_waysBehind_46 : decode cX2_waysBehind 46 = .ok (.iload_n 2, 1) := by decide +kernel
theorem dX2_waysBehind_47 : decode cX2_waysBehind 47 = .ok (.iaload, 1) := by decide +kernel
theorem dX2_waysBehind_48 : decode cX2_waysBehind 48 = .ok (.iload_n 1, 1) := by decide +kernel
theorem dX2_waysBehind_49 : decode cX2_waysBehind 49 = .ok (.invokevirtual 42, 3) := by decide +kernel
theorem dX2_waysBehind_52 : decode cX2_waysBehind 52 = .ok (.ifCond .eq 17, 3) := by decide +kernel
theorem dX2_waysBehind_55 : decode cX2_waysBehind 55 = .ok (.iload_n 3, 1) := by decide +kernel
theorem dX2_waysBehind_56 : decode cX2_waysBehind 56 = .ok (.aload_n 0, 1) := by decide +kernel
theorem dX2_waysBehind_57 : decode cX2_waysBehind 57 = .ok (.getfield 18, 3) := by decide +kernel
theorem dX2_waysBehind_60 : decode cX2_waysBehind 60 = .ok (.iload_n 1, 1) := by decide +kernel
theorem dX2_waysBehind_61 : decode cX2_waysBehind 61 = .ok (.iconst 1, 1) := by decide +kernel
theorem dX2_waysBehind_62 : decode cX2_waysBehind 62 = .ok (.iload 4, 2) := by decide +kernel
theorem dX2_waysBehind_64 : decode cX2_waysBehind 64 = .ok (.ishl, 1) := by decide +kernel
theorem dX2_waysBehind_65 : decode cX2_waysBehind 65 = .ok (.ior, 1) := by decide +kernel
theorem dX2_waysBehind_66 : decode cX2_waysBehind 66 = .ok (.iaload, 1) := by decide +kernel
theorem dX2_waysBehind_67 : decode cX2_waysBehind 67 = .ok (.iadd, 1) := by decide +kernel
theorem dX2_waysBehind_68 : decode cX2_waysBehind 68 = .ok (.istore_n 3, 1) := by decide +kernel
theorem dX2_waysBehind_69 : decode cX2_waysBehind 69 = .ok (.iinc 4 1, 3) := by decide +kernel
theorem dX2_waysBehind_72 : decode cX2_waysBehind 72 = .ok (.goto (-40), 3) := by decide +kernel
theorem dX2_waysBehind_75 : decode cX2_waysBehind 75 = .ok (.iload_n 3, 1) := by decide +kernel
theorem dX2_waysBehind_76 : decode cX2_waysBehind 76 = .ok (.ireturn, 1) := by decide +kernel
theorem dX2_canRead_0 : decode cX2_canRead 0 = .ok (.aload_n 0, 1) := by decide +kernel
theorem dX2_canRead_1 : decode cX2_canRead 1 = .ok (.getfield 9, 3) := by decide +kernel
theorem dX2_canRead_4 : decode cX2_canRead 4 = .ok (.iload_n 1, 1) := by decide +kernel
theorem dX2_canRead_5 : decode cX2_canRead 5 = .ok (.iaload, 1) := by decide +kernel
theorem dX2_canRead_6 : decode cX2_canRead 6 = .ok (.aload_n 0, 1) := by decide +kernel
theorem dX2_canRead_7 : decode cX2_canRead 7 = .ok (.getfield 21, 3) := by decide +kernel
theorem dX2_canRead_10 : decode cX2_canRead 10 = .ok (.getfield 46, 3) := by decide +kernel
theorem dX2_canRead_13 : decode cX2_canRead 13 = .ok (.iload_n 2, 1) := by decide +kernel
theorem dX2_canRead_14 : decode cX2_canRead 14 = .ok (.iaload, 1) := by decide +kernel
theorem dX2_canRead_15 : decode cX2_canRead 15 = .ok (.ishr, 1) := by decide +kernel
theorem dX2_canRead_16 : decode cX2_canRead 16 = .ok (.iconst 1, 1) := by decide +kernel
theorem dX2_canRead_17 : decode cX2_canRead 17 = .ok (.iand, 1) := by decide +kernel
theorem dX2_canRead_18 : decode cX2_canRead 18 = .ok (.iconst 1, 1) := by decide +kernel
theorem dX2_canRead_19 : decode cX2_canRead 19 = .ok (.if_icmp .ne 7, 3) := by decide +kernel
theorem dX2_canRead_22 : decode cX2_canRead 22 = .ok (.iconst 1, 1) := by decide +kernel
theorem dX2_canRead_23 : decode cX2_canRead 23 = .ok (.goto 4, 3) := by decide +kernel
theorem dX2_canRead_26 : decode cX2_canRead 26 = .ok (.iconst 0, 1) := by decide +kernel
theorem dX2_canRead_27 : decode cX2_canRead 27 = .ok (.istore 4, 2) := by decide +kernel
theorem dX2_canRead_29 : decode cX2_canRead 29 = .ok (.iload 4, 2) := by decide +kernel
theorem dX2_canRead_31 : decode cX2_canRead 31 = .ok (.ifCond .ne 15, 3) := by decide +kernel
theorem dX2_canRead_34 : decode cX2_canRead 34 = .ok (.iload_n 3, 1) := by decide +kernel
theorem dX2_canRead_35 : decode cX2_canRead 35 = .ok (.iload_n 1, 1) := by decide +kernel
theorem dX2_canRead_36 : decode cX2_canRead 36 = .ok (.ishr, 1) := by decide +kernel
theorem dX2_canRead_37 : decode cX2_canRead 37 = .ok (.iconst 1, 1) := by decide +kernel
theorem dX2_canRead_38 : decode cX2_canRead 38 = .ok (.iand, 1) := by decide +kernel
theorem dX2_canRead_39 : decode cX2_canRead 39 = .ok (.ifCond .ne 7, 3) := by decide +kernel
theorem dX2_canRead_42 : decode cX2_canRead 42 = .ok (.iconst 1, 1) := by decide +kernel
theorem dX2_canRead_43 : decode cX2_canRead 43 = .ok (.goto 4, 3) := by decide +kernel
theorem dX2_canRead_46 : decode cX2_canRead 46 = .ok (.iconst 0, 1) := by decide +kernel
theorem dX2_canRead_47 : decode cX2_canRead 47 = .ok (.ireturn, 1) := by decide +kernel
theorem dX2_readerInFirst_0 : decode cX2_readerInFirst 0 = .ok (.iconst 0, 1) := by decide +kernel
theorem dX2_readerInFirst_1 : decode cX2_readerInFirst 1 = .ok (.istore_n 2, 1) := by decide +kernel
theorem dX2_readerInFirst_2 : decode cX2_readerInFirst 2 = .ok (.iconst 0, 1) := by decide +kernel
theorem dX2_readerInFirst_3 : decode cX2_readerInFirst 3 = .ok (.istore_n 3, 1) := by decide +kernel
theorem dX2_readerInFirst_4 : decode cX2_readerInFirst 4 = .ok (.iload_n 3, 1) := by decide +kernel
theorem dX2_readerInFirst_5 : decode cX2_readerInFirst 5 = .ok (.aload_n 0, 1) := by decide +kernel
theorem dX2_readerInFirst_6 : decode cX2_readerInFirst 6 = .ok (.getfield 25, 3) := by decide +kernel
theorem dX2_readerInFirst_9 : decode cX2_readerInFirst 9 = .ok (.if_icmp .ge 48, 3) := by decide +kernel
theorem dX2_readerInFirst_12 : decode cX2_readerInFirst 12 = .ok (.aload_n 0, 1) := by decide +kernel
theorem dX2_readerInFirst_13 : decode cX2_readerInFirst 13 = .ok (.aload_n 0, 1) := by decide +kernel
theorem dX2_readerInFirst_14 : decode cX2_readerInFirst 14 = .ok (.getfield 15, 3) := by decide +kernel
theorem dX2_readerInFirst_17 : decode cX2_readerInFirst 17 = .ok (.iload_n 3, 1) := by decide +kernel
theorem dX2_readerInFirst_18 : decode cX2_readerInFirst 18 = .ok (.iaload, 1) := by decide +kernel
theorem dX2_readerInFirst_19 : decode cX2_readerInFirst 19 = .ok (.iload_n 2, 1) := by decide +kernel
theorem dX2_readerInFirst_20 : decode cX2_readerInFirst 20 = .ok (.invokevirtual 49, 3) := by decide +kernel
theorem dX2_readerInFirst_23 : decode cX2_readerInFirst 23 = .ok (.istore 4, 2) := by decide +kernel
theorem dX2_readerInFirst_25 : decode cX2_readerInFirst 25 = .ok (.iload 4, 2) := by decide +kernel
theorem dX2_readerInFirst_27 : decode cX2_readerInFirst 27 = .ok (.iconst (-1), 1) := by decide +kernel
theorem dX2_readerInFirst_28 : decode cX2_readerInFirst 28 = .ok (.if_icmp .eq 13, 3) := by decide +kernel
theorem dX2_readerInFirst_31 : decode cX2_readerInFirst 31 = .ok (.aload_n 0, 1) := by decide +kernel
theorem dX2_readerInFirst_32 : decode cX2_readerInFirst 32 = .ok (.getfield 15, 3) := by decide +kernel
theorem dX2_readerInFirst_35 : decode cX2_readerInFirst 35 = .ok (.iload_n 3, 1) := by decide +kernel
theorem dX2_readerInFirst_36 : decode cX2_readerInFirst 36 = .ok (.iaload, 1) := by decide +kernel
theorem dX2_readerInFirst_37 : decode cX2_readerInFirst 37 = .ok (.iload_n 1, 1) := by decide +kernel
theorem dX2_readerInFirst_38 : decode cX2_readerInFirst 38 = .ok (.if_icmp .ne 6, 3) := by decide +kernel
theorem dX2_readerInFirst_41 : decode cX2_readerInFirst 41 = .ok (.iload 4, 2) := by decide +kernel
theorem dX2_readerInFirst_43 : decode cX2_readerInFirst 43 = .ok (.ireturn, 1) := by decide +kernel
theorem dX2_readerInFirst_44 : decode cX2_readerInFirst 44 = .ok (.iload_n 2, 1) := by decide +kernel
theorem dX2_readerInFirst_45 : decode cX2_readerInFirst 45 = .ok (.iconst 1, 1) := by decide +kernel
theorem dX2_readerInFirst_46 : decode cX2_readerInFirst 46 = .ok (.iload 4, 2) := by decide +kernel
theorem dX2_readerInFirst_48 : decode cX2_readerInFirst 48 = .ok (.ishl, 1) := by decide +kernel
theorem dX2_readerInFirst_49 : decode cX2_readerInFirst 49 = .ok (.ior, 1) := by decide +kernel
theorem dX2_readerInFirst_50 : decode cX2_readerInFirst 50 = .ok (.istore_n 2, 1) := by decide +kernel
theorem dX2_readerInFirst_51 : decode cX2_readerInFirst 51 = .ok (.iinc 3 1, 3) := by decide +kernel
theorem dX2_readerInFirst_54 : decode cX2_readerInFirst 54 = .ok (.goto (-50), 3) := by decide +kernel
theorem dX2_readerInFirst_57 : decode cX2_readerInFirst 57 = .ok (.iconst (-1), 1) := by decide +kernel
theorem dX2_readerInFirst_58 : decode cX2_readerInFirst 58 = .ok (.ireturn, 1) := by decide +kernel
theorem dX2_firstReader_0 : decode cX2_firstReader 0 = .ok (.iconst 0, 1) := by decide +kernel
theorem dX2_firstReader_1 : decode cX2_firstReader 1 = .ok (.istore_n 3, 1) := by decide +kernel
theorem dX2_firstReader_2 : decode cX2_firstReader 2 = .ok (.iload_n 3, 1) := by decide +kernel
theorem dX2_firstReader_3 : decode cX2_firstReader 3 = .ok (.bipush 6, 2) := by decide +kernel
theorem dX2_firstReader_5 : decode cX2_firstReader 5 = .ok (.if_icmp .ge 34, 3) := by decide +kernel
theorem dX2_firstReader_8 : decode cX2_firstReader 8 = .ok (.aload_n 0, 1) := by decide +kernel
theorem dX2_firstReader_9 : decode cX2_firstReader 9 = .ok (.iload_n 3, 1) := by decide +kernel
theorem dX2_firstReader_10 : decode cX2_firstReader 10 = .ok (.iload_n 1, 1) := by decide +kernel
theorem dX2_firstReader_11 : decode cX2_firstReader 11 = .ok (.iload_n 2, 1) := by decide +kernel
theorem dX2_firstReader_12 : decode cX2_firstReader 12 = .ok (.invokevirtual 42, 3) := by decide +kernel
theorem dX2_firstReader_15 : decode cX2_firstReader 15 = .ok (.ifCond .eq 18, 3) := by decide +kernel
theorem dX2_firstReader_18 : decode cX2_firstReader 18 = .ok (.aload_n 0, 1) := by decide +kernel
theorem dX2_firstReader_19 : decode cX2_firstReader 19 = .ok (.getfield 18, 3) := by decide +kernel
theorem dX2_firstReader_22 : decode cX2_firstReader 22 = .ok (.iload_n 2, 1) := by decide +kernel
theorem dX2_firstReader_23 : decode cX2_firstReader 23 = .ok (.iconst 1, 1) := by decide +kernel
theorem dX2_firstReader_24 : decode cX2_firstReader 24 = .ok (.iload_n 3, 1) := by decide +kernel
theorem dX2_firstReader_25 : decode cX2_firstReader 25 = .ok (.ishl, 1) := by decide +kernel
theorem dX2_firstReader_26 : decode cX2_firstReader 26 = .ok (.ior, 1) := by decide +kernel
theorem dX2_firstReader_27 : decode cX2_firstReader 27 = .ok (.iaload, 1) := by decide +kernel
theorem dX2_firstReader_28 : decode cX2_firstReader 28 = .ok (.ifCond .le 5, 3) := by decide +kernel
theorem dX2_firstReader_31 : decode cX2_firstReader 31 = .ok (.iload_n 3, 1) := by decide +kernel
theorem dX2_firstReader_32 : decode cX2_firstReader 32 = .ok (.ireturn, 1) := by decide +kernel
theorem dX2_firstReader_33 : decode cX2_firstReader 33 = .ok (.iinc 3 1, 3) := by decide +kernel
theorem dX2_firstReader_36 : decode cX2_firstReader 36 = .ok (.goto (-34), 3) := by decide +kernel
theorem dX2_firstReader_39 : decode cX2_firstReader 39 = .ok (.iconst (-1), 1) := by decide +kernel
theorem dX2_firstReader_40 : decode cX2_firstReader 40 = .ok (.ireturn, 1) := by decide +kernel
theorem dX3_init_0 : decode cX3_init 0 = .ok (.aload_n 0, 1) := by decide +kernel
theorem dX3_init_1 : decode cX3_init 1 = .ok (.invokespecial 3, 3) := by decide +kernel
theorem dX3_init_4 : decode cX3_init 4 = .ok (.aload_n 0, 1) := by decide +kernel
theorem dX3_init_5 : decode cX3_init 5 = .ok (.bipush 8, 2) := by decide +kernel
theorem dX3_init_7 : decode cX3_init 7 = .ok (.newarray .int, 2) := by decide +kernel
theorem dX3_init_9 : decode cX3_init 9 = .ok (.putfield 9, 3) := by decide +kernel
theorem dX3_init_12 : decode cX3_init 12 = .ok (.aload_n 0, 1) := by decide +kernel
theorem dX3_init_13 : decode cX3_init 13 = .ok (.bipush 8, 2) := by decide +kernel
theorem dX3_init_15 : decode cX3_init 15 = .ok (.newarray .int, 2) := by decide +kernel
theorem dX3_init_17 : decode cX3_init 17 = .ok (.putfield 15, 3) := by decide +kernel
theorem dX3_init_20 : decode cX3_init 20 = .ok (.aload_n 0, 1) := by decide +kernel
theorem dX3_init_21 : decode cX3_init 21 = .ok (.bipush 6, 2) := by decide +kernel
theorem dX3_init_23 : decode cX3_init 23 = .ok (.newarray .int, 2) := by decide +kernel
theorem dX3_init_25 : decode cX3_init 25 = .ok (.putfield 18, 3) := by decide +kernel
theorem dX3_init_28 : decode cX3_init 28 = .ok (.aload_n 0, 1) := by decide +kernel
theorem dX3_init_29 : decode cX3_init 29 = .ok (.bipush 8, 2) := by decide +kernel
theorem dX3_init_31 : decode cX3_init 31 = .ok (.newarray .int, 2) := by decide +kernel
theorem dX3_init_33 : decode cX3_init 33 = .ok (.putfield 21, 3) := by decide +kernel
theorem dX3_init_36 : decode cX3_init 36 = .ok (.aload_n 0, 1) := by decide +kernel
theorem dX3_init_37 : decode cX3_init 37 = .ok (.bipush 8, 2) := by decide +kernel
theorem dX3_init_39 : decode cX3_init 39 = .ok (.newarray .int, 2) := by decide +kernel
theorem dX3_init_41 : decode cX3_init 41 = .ok (.putfield 24, 3) := by decide +kernel
theorem dX3_init_44 : decode cX3_init 44 = .ok (.aload_n 0, 1) := by decide +kernel
theorem dX3_init_45 : decode cX3_init 45 = .ok (.bipush 30, 2) := by decide +kernel
theorem dX3_init_47 : decode cX3_init 47 = .ok (.newarray .int, 2) := by decide +kernel
theorem dX3_init_49 : decode cX3_init 49 = .ok (.putfield 27, 3) := by decide +kernel
theorem dX3_init_52 : decode cX3_init 52 = .ok (.aload_n 0, 1) := by decide +kernel
theorem dX3_init_53 : decode cX3_init 53 = .ok (.bipush 30, 2) := by decide +kernel
theorem dX3_init_55 : decode cX3_init 55 = .ok (.newarray .int, 2) := by decide +kernel
theorem dX3_init_57 : decode cX3_init 57 = .ok (.putfield 30, 3) := by decide +kernel
theorem dX3_init_60 : decode cX3_init 60 = .ok (.aload_n 0, 1) := by decide +kernel
theorem dX3_init_61 : decode cX3_init 61 = .ok (.bipush 30, 2) := by decide +kernel
theorem dX3_init_63 : decode cX3_init 63 = .ok (.newarray .int, 2) := by decide +kernel
theorem dX3_init_65 : decode cX3_init 65 = .ok (.putfield 33, 3) := by decide +kernel
theorem dX3_init_68 : decode cX3_init 68 = .ok (.aload_n 0, 1) := by decide +kernel
theorem dX3_init_69 : decode cX3_init 69 = .ok (.bipush 30, 2) := by decide +kernel
theorem dX3_init_71 : decode cX3_init 71 = .ok (.newarray .int, 2) := by decide +kernel
theorem dX3_init_73 : decode cX3_init 73 = .ok (.putfield 36, 3) := by decide +kernel
theorem dX3_init_76 : decode cX3_init 76 = .ok (.aload_n 0, 1) := by decide +kernel
theorem dX3_init_77 : decode cX3_init 77 = .ok (.bipush 30, 2) := by decide +kernel
theorem dX3_init_79 : decode cX3_init 79 = .ok (.bipush 8, 2) := by decide +kernel
theorem dX3_init_81 : decode cX3_init 81 = .ok (.multianewarray 39 2, 4) := by decide +kernel
theorem dX3_init_85 : decode cX3_init 85 = .ok (.putfield 41, 3) := by decide +kernel
theorem dX3_init_88 : decode cX3_init 88 = .ok (.return_, 1) := by decide +kernel
theorem dX3_addWord_0 : decode cX3_addWord 0 = .ok (.aload_n 0, 1) := by decide +kernel
theorem dX3_addWord_1 : decode cX3_addWord 1 = .ok (.getfield 44, 3) := by decide +kernel
theorem dX3_addWord_4 : decode cX3_addWord 4 = .ok (.bipush 8, 2) := by decide +kernel
theorem dX3_addWord_6 : decode cX3_addWord 6 = .ok (.if_icmp .lt 6, 3) := by decide +kernel
theorem dX3_addWord_9 : decode cX3_addWord 9 = .ok (.bipush (-4), 2) := by decide +kernel
theorem dX3_addWord_11 : decode cX3_addWord 11 = .ok (.ireturn, 1) := by decide +kernel
theorem dX3_addWord_12 : decode cX3_addWord 12 = .ok (.aload_n 0, 1) := by decide +kernel
theorem dX3_addWord_13 : decode cX3_addWord 13 = .ok (.getfield 9, 3) := by decide +kernel
theorem dX3_addWord_16 : decode cX3_addWord 16 = .ok (.aload_n 0, 1) := by decide +kernel
theorem dX3_addWord_17 : decode cX3_addWord 17 = .ok (.getfield 44, 3) := by decide +kernel
theorem dX3_addWord_20 : decode cX3_addWord 20 = .ok (.iload_n 1, 1) := by decide +kernel
theorem dX3_addWord_21 : decode cX3_addWord 21 = .ok (.iastore, 1) := by decide +kernel
theorem dX3_addWord_22 : decode cX3_addWord 22 = .ok (.aload_n 0, 1) := by decide +kernel
theorem dX3_addWord_23 : decode cX3_addWord 23 = .ok (.getfield 15, 3) := by decide +kernel
theorem dX3_addWord_26 : decode cX3_addWord 26 = .ok (.aload_n 0, 1) := by decide +kernel
theorem dX3_addWord_27 : decode cX3_addWord 27 = .ok (.getfield 44, 3) := by decide +kernel
theorem dX3_addWord_30 : decode cX3_addWord 30 = .ok (.iload_n 2, 1) := by decide +kernel
theorem dX3_addWord_31 : decode cX3_addWord 31 = .ok (.iastore, 1) := by decide +kernel
theorem dX3_addWord_32 : decode cX3_addWord 32 = .ok (.aload_n 0, 1) := by decide +kernel
theorem dX3_addWord_33 : decode cX3_addWord 33 = .ok (.dup, 1) := by decide +kernel
theorem dX3_addWord_34 : decode cX3_addWord 34 = .ok (.getfield 44, 3) := by decide +kernel
theorem dX3_addWord_37 : decode cX3_addWord 37 = .ok (.dup_x1, 1) := by decide +kernel
theorem dX3_addWord_38 : decode cX3_addWord 38 = .ok (.iconst 1, 1) := by decide +kernel
theorem dX3_addWord_39 : decode cX3_addWord 39 = .ok (.iadd, 1) := by decide +kernel
theorem dX3_addWord_40 : decode cX3_addWord 40 = .ok (.putfield 44, 3) := by decide +kernel
theorem dX3_addWord_43 : decode cX3_addWord 43 = .ok (.ireturn, 1) := by decide +kernel
theorem dX3_addHand_0 : decode cX3_addHand 0 = .ok (.aload_n 0, 1) := by decide +kernel
theorem dX3_addHand_1 : decode cX3_addHand 1 = .ok (.getfield 48, 3) := by decide +kernel
theorem dX3_addHand_4 : decode cX3_addHand 4 = .ok (.bipush 6, 2) := by decide +kernel
theorem dX3_addHand_6 : decode cX3_addHand 6 = .ok (.if_icmp .lt 6, 3) := by decide +kernel
theorem dX3_addHand_9 : decode cX3_addHand 9 = .ok (.bipush (-4), 2) := by decide +kernel
theorem dX3_addHand_11 : decode cX3_addHand 11 = .ok (.ireturn, 1) := by decide +kernel
theorem dX3_addHand_12 : decode cX3_addHand 12 = .ok (.aload_n 0, 1) := by decide +kernel
theorem dX3_addHand_13 : decode cX3_addHand 13 = .ok (.getfield 18, 3) := by decide +kernel
theorem dX3_addHand_16 : decode cX3_addHand 16 = .ok (.aload_n 0, 1) := by decide +kernel
theorem dX3_addHand_17 : decode cX3_addHand 17 = .ok (.getfield 48, 3) := by decide +kernel
theorem dX3_addHand_20 : decode cX3_addHand 20 = .ok (.iload_n 1, 1) := by decide +kernel
theorem dX3_addHand_21 : decode cX3_addHand 21 = .ok (.iastore, 1) := by decide +kernel
theorem dX3_addHand_22 : decode cX3_addHand 22 = .ok (.aload_n 0, 1) := by decide +kernel
theorem dX3_addHand_23 : decode cX3_addHand 23 = .ok (.dup, 1) := by decide +kernel
theorem dX3_addHand_24 : decode cX3_addHand 24 = .ok (.getfield 48, 3) := by decide +kernel
theorem dX3_addHand_27 : decode cX3_addHand 27 = .ok (.dup_x1, 1) := by decide +kernel
theorem dX3_addHand_28 : decode cX3_addHand 28 = .ok (.iconst 1, 1) := by decide +kernel
theorem dX3_addHand_29 : decode cX3_addHand 29 = .ok (.iadd, 1) := by decide +kernel
theorem dX3_addHand_30 : decode cX3_addHand 30 = .ok (.putfield 48, 3) := by decide +kernel
theorem dX3_addHand_33 : decode cX3_addHand 33 = .ok (.ireturn, 1) := by decide +kernel
theorem dX3_addPupil_0 : decode cX3_addPupil 0 = .ok (.aload_n 0, 1) := by decide +kernel
theorem dX3_addPupil_1 : decode cX3_addPupil 1 = .ok (.getfield 51, 3) := by decide +kernel
theorem dX3_addPupil_4 : decode cX3_addPupil 4 = .ok (.bipush 8, 2) := by decide +kernel
theorem dX3_addPupil_6 : decode cX3_addPupil 6 = .ok (.if_icmp .lt 6, 3) := by decide +kernel
theorem dX3_addPupil_9 : decode cX3_addPupil 9 = .ok (.bipush (-4), 2) := by decide +kernel
theorem dX3_addPupil_11 : decode cX3_addPupil 11 = .ok (.ireturn, 1) := by decide +kernel
theorem dX3_addPupil_12 : decode cX3_addPupil 12 = .ok (.aload_n 0, 1) := by decide +kernel
theorem dX3_addPupil_13 : decode cX3_addPupil 13 = .ok (.getfield 21, 3) := by decide +kernel
theorem dX3_addPupil_16 : decode cX3_addPupil 16 = .ok (.aload_n 0, 1) := by decide +kernel
theorem dX3_addPupil_17 : decode cX3_addPupil 17 = .ok (.getfield 51, 3) := by decide +kernel
theorem dX3_addPupil_20 : decode cX3_addPupil 20 = .ok (.iload_n 1, 1) := by decide +kernel
theorem dX3_addPupil_21 : decode cX3_addPupil 21 = .ok (.iastore, 1) := by decide +kernel
theorem dX3_addPupil_22 : decode cX3_addPupil 22 = .ok (.aload_n 0, 1) := by decide +kernel
theorem dX3_addPupil_23 : decode cX3_addPupil 23 = .ok (.getfield 24, 3) := by decide +kernel
theorem dX3_addPupil_26 : decode cX3_addPupil 26 = .ok (.aload_n 0, 1) := by decide +kernel
theorem dX3_addPupil_27 : decode cX3_addPupil 27 = .ok (.getfield 51, 3) := by decide +kernel
theorem dX3_addPupil_30 : decode cX3_addPupil 30 = .ok (.iload_n 2, 1) := by decide +kernel
theorem dX3_addPupil_31 : decode cX3_addPupil 31 = .ok (.iastore, 1) := by decide +kernel
theorem dX3_addPupil_32 : decode cX3_addPupil 32 = .ok (.aload_n 0, 1) := by decide +kernel
theorem dX3_addPupil_33 : decode cX3_addPupil 33 = .ok (.dup, 1) := by decide +kernel
theorem dX3_addPupil_34 : decode cX3_addPupil 34 = .ok (.getfield 51, 3) := by decide +kernel
theorem dX3_addPupil_37 : decode cX3_addPupil 37 = .ok (.dup_x1, 1) := by decide +kernel
theorem dX3_addPupil_38 : decode cX3_addPupil 38 = .ok (.iconst 1, 1) := by decide +kernel
theorem dX3_addPupil_39 : decode cX3_addPupil 39 = .ok (.iadd, 1) := by decide +kernel
theorem dX3_addPupil_40 : decode cX3_addPupil 40 = .ok (.putfield 51, 3) := by decide +kernel
theorem dX3_addPupil_43 : decode cX3_addPupil 43 = .ok (.ireturn, 1) := by decide +kernel
theorem dX3_addLetter_0 : decode cX3_addLetter 0 = .ok (.aload_n 0, 1) := by decide +kernel
theorem dX3_addLetter_1 : decode cX3_addLetter 1 = .ok (.getfield 54, 3) := by decide +kernel
theorem dX3_addLetter_4 : decode cX3_addLetter 4 = .ok (.bipush 30, 2) := by decide +kernel
theorem dX3_addLetter_6 : decode cX3_addLetter 6 = .ok (.if_icmp .lt 6, 3) := by decide +kernel
theorem dX3_addLetter_9 : decode cX3_addLetter 9 = .ok (.bipush (-4), 2) := by decide +kernel
theorem dX3_addLetter_11 : decode cX3_addLetter 11 = .ok (.ireturn, 1) := by decide +kernel
theorem dX3_addLetter_12 : decode cX3_addLetter 12 = .ok (.aload_n 0, 1) := by decide +kernel
theorem dX3_addLetter_13 : decode cX3_addLetter 13 = .ok (.getfield 27, 3) := by decide +kernel
theorem dX3_addLetter_16 : decode cX3_addLetter 16 = .ok (.aload_n 0, 1) := by decide +kernel
theorem dX3_addLetter_17 : decode cX3_addLetter 17 = .ok (.getfield 54, 3) := by decide +kernel
theorem dX3_addLetter_20 : decode cX3_addLetter 20 = .ok (.iload_n 1, 1) := by decide +kernel
theorem dX3_addLetter_21 : decode cX3_addLetter 21 = .ok (.iastore, 1) := by decide +kernel
theorem dX3_addLetter_22 : decode cX3_addLetter 22 = .ok (.aload_n 0, 1) := by decide +kernel
theorem dX3_addLetter_23 : decode cX3_addLetter 23 = .ok (.getfield 30, 3) := by decide +kernel
theorem dX3_addLetter_26 : decode cX3_addLetter 26 = .ok (.aload_n 0, 1) := by decide +kernel
theorem dX3_addLetter_27 : decode cX3_addLetter 27 = .ok (.getfield 54, 3) := by decide +kernel
theorem dX3_addLetter_30 : decode cX3_addLetter 30 = .ok (.iload_n 2, 1) := by decide +kernel
theorem dX3_addLetter_31 : decode cX3_addLetter 31 = .ok (.iastore, 1) := by decide +kernel
theorem dX3_addLetter_32 : decode cX3_addLetter 32 = .ok (.aload_n 0, 1) := by decide +kernel
theorem dX3_addLetter_33 : decode cX3_addLetter 33 = .ok (.getfield 33, 3) := by decide +kernel
theorem dX3_addLetter_36 : decode cX3_addLetter 36 = .ok (.aload_n 0, 1) := by decide +kernel
theorem dX3_addLetter_37 : decode cX3_addLetter 37 = .ok (.getfield 54, 3) := by decide +kernel
theorem dX3_addLetter_40 : decode cX3_addLetter 40 = .ok (.iload_n 3, 1) := by decide +kernel
theorem dX3_addLetter_41 : decode cX3_addLetter 41 = .ok (.iastore, 1) := by decide +kernel
theorem dX3_addLetter_42 : decode cX3_addLetter 42 = .ok (.aload_n 0, 1) := by decide +kernel
theorem dX3_addLetter_43 : decode cX3_addLetter 43 = .ok (.dup, 1) := by decide +kernel
theorem dX3_addLetter_44 : decode cX3_addLetter 44 = .ok (.getfield 54, 3) := by decide +kernel
theorem dX3_addLetter_47 : decode cX3_addLetter 47 = .ok (.dup_x1, 1) := by decide +kernel
theorem dX3_addLetter_48 : decode cX3_addLetter 48 = .ok (.iconst 1, 1) := by decide +kernel
theorem dX3_addLetter_49 : decode cX3_addLetter 49 = .ok (.iadd, 1) := by decide +kernel
theorem dX3_addLetter_50 : decode cX3_addLetter 50 = .ok (.putfield 54, 3) := by decide +kernel
theorem dX3_addLetter_53 : decode cX3_addLetter 53 = .ok (.ireturn, 1) := by decide +kernel
theorem dX3_addToLetter_0 : decode cX3_addToLetter 0 = .ok (.aload_n 0, 1) := by decide +kernel
theorem dX3_addToLetter_1 : decode cX3_addToLetter 1 = .ok (.getfield 36, 3) := by decide +kernel
theorem dX3_addToLetter_4 : decode cX3_addToLetter 4 = .ok (.iload_n 1, 1) := by decide +kernel
theorem dX3_addToLetter_5 : decode cX3_addToLetter 5 = .ok (.iaload, 1) := by decide +kernel
theorem dX3_addToLetter_6 : decode cX3_addToLetter 6 = .ok (.bipush 8, 2) := by decide +kernel
theorem dX3_addToLetter_8 : decode cX3_addToLetter 8 = .ok (.if_icmp .lt 6, 3) := by decide +kernel
theorem dX3_addToLetter_11 : decode cX3_addToLetter 11 = .ok (.bipush (-4), 2) := by decide +kernel
theorem dX3_addToLetter_13 : decode cX3_addToLetter 13 = .ok (.ireturn, 1) := by decide +kernel
theorem dX3_addToLetter_14 : decode cX3_addToLetter 14 = .ok (.aload_n 0, 1) := by decide +kernel
theorem dX3_addToLetter_15 : decode cX3_addToLetter 15 = .ok (.getfield 41, 3) := by decide +kernel
theorem dX3_addToLetter_18 : decode cX3_addToLetter 18 = .ok (.iload_n 1, 1) := by decide +kernel
theorem dX3_addToLetter_19 : decode cX3_addToLetter 19 = .ok (.aaload, 1) := by decide +kernel
theorem dX3_addToLetter_20 : decode cX3_addToLetter 20 = .ok (.aload_n 0, 1) := by decide +kernel
theorem dX3_addToLetter_21 : decode cX3_addToLetter 21 = .ok (.getfield 36, 3) := by decide +kernel
theorem dX3_addToLetter_24 : decode cX3_addToLetter 24 = .ok (.iload_n 1, 1) := by decide +kernel
theorem dX3_addToLetter_25 : decode cX3_addToLetter 25 = .ok (.iaload, 1) := by decide +kernel
theorem dX3_addToLetter_26 : decode cX3_addToLetter 26 = .ok (.iload_n 2, 1) := by decide +kernel
theorem dX3_addToLetter_27 : decode cX3_addToLetter 27 = .ok (.iastore, 1) := by decide +kernel
theorem dX3_addToLetter_28 : decode cX3_addToLetter 28 = .ok (.aload_n 0, 1) := by decide +kernel
theorem dX3_addToLetter_29 : decode cX3_addToLetter 29 = .ok (.getfield 36, 3) := by decide +kernel
theorem dX3_addToLetter_32 : decode cX3_addToLetter 32 = .ok (.iload_n 1, 1) := by decide +kernel
theorem dX3_addToLetter_33 : decode cX3_addToLetter 33 = .ok (.dup2, 1) := by decide +kernel
theorem dX3_addToLetter_34 : decode cX3_addToLetter 34 = .ok (.iaload, 1) := by decide +kernel
theorem dX3_addToLetter_35 : decode cX3_addToLetter 35 = .ok (.iconst 1, 1) := by decide +kernel
theorem dX3_addToLetter_36 : decode cX3_addToLetter 36 = .ok (.iadd, 1) := by decide +kernel
theorem dX3_addToLetter_37 : decode cX3_addToLetter 37 = .ok (.iastore, 1) := by decide +kernel
theorem dX3_addToLetter_38 : decode cX3_addToLetter 38 = .ok (.aload_n 0, 1) := by decide +kernel
theorem dX3_addToLetter_39 : decode cX3_addToLetter 39 = .ok (.getfield 36, 3) := by decide +kernel
theorem dX3_addToLetter_42 : decode cX3_addToLetter 42 = .ok (.iload_n 1, 1) := by decide +kernel
theorem dX3_addToLetter_43 : decode cX3_addToLetter 43 = .ok (.iaload, 1) := by decide +kernel
theorem dX3_addToLetter_44 : decode cX3_addToLetter 44 = .ok (.ireturn, 1) := by decide +kernel
theorem dX3_lettersOn_0 : decode cX3_lettersOn 0 = .ok (.iconst 0, 1) := by decide +kernel
theorem dX3_lettersOn_1 : decode cX3_lettersOn 1 = .ok (.istore_n 3, 1) := by decide +kernel
theorem dX3_lettersOn_2 : decode cX3_lettersOn 2 = .ok (.iconst 0, 1) := by decide +kernel
theorem dX3_lettersOn_3 : decode cX3_lettersOn 3 = .ok (.istore 4, 2) := by decide +kernel
theorem dX3_lettersOn_5 : decode cX3_lettersOn 5 = .ok (.iload 4, 2) := by decide +kernel
theorem dX3_lettersOn_7 : decode cX3_lettersOn 7 = .ok (.aload_n 0, 1) := by decide +kernel
theorem dX3_lettersOn_8 : decode cX3_lettersOn 8 = .ok (.getfield 54, 3) := by decide +kernel
theorem dX3_lettersOn_11 : decode cX3_lettersOn 11 = .ok (.if_icmp .ge 23, 3) := by decide +kernel
theorem dX3_lettersOn_14 : decode cX3_lettersOn 14 = .ok (.aload_n 0, 1) := by decide +kernel
theorem dX3_lettersOn_15 : decode cX3_lettersOn 15 = .ok (.iload 4, 2) := by decide +kernel
theorem dX3_lettersOn_17 : decode cX3_lettersOn 17 = .ok (.iload_n 1, 1) := by decide +kernel
theorem dX3_lettersOn_18 : decode cX3_lettersOn 18 = .ok (.iload_n 2, 1) := by decide +kernel
theorem dX3_lettersOn_19 : decode cX3_lettersOn 19 = .ok (.invokevirtual 57, 3) := by decide +kernel
theorem dX3_lettersOn_22 : decode cX3_lettersOn 22 = .ok (.ifCond .eq 6, 3) := by decide +kernel
theorem dX3_lettersOn_25 : decode cX3_lettersOn 25 = .ok (.iinc 3 1, 3) := by decide +kernel
theorem dX3_lettersOn_28 : decode cX3_lettersOn 28 = .ok (.iinc 4 1, 3) := by decide +kernel
theorem dX3_lettersOn_31 : decode cX3_lettersOn 31 = .ok (.goto (-26), 3) := by decide +kernel
theorem dX3_lettersOn_34 : decode cX3_lettersOn 34 = .ok (.iload_n 3, 1) := by decide +kernel
theorem dX3_lettersOn_35 : decode cX3_lettersOn 35 = .ok (.ireturn, 1) := by decide +kernel
theorem dX3_lettersWith_0 : decode cX3_lettersWith 0 = .ok (.iconst 0, 1) := by decide +kernel
theorem dX3_lettersWith_1 : decode cX3_lettersWith 1 = .ok (.istore 4, 2) := by decide +kernel
theorem dX3_lettersWith_3 : decode cX3_lettersWith 3 = .ok (.iconst 0, 1) := by decide +kernel
theorem dX3_lettersWith_4 : decode cX3_lettersWith 4 = .ok (.istore 5, 2) := by decide +kernel
theorem dX3_lettersWith_6 : decode cX3_lettersWith 6 = .ok (.iload 5, 2) := by decide +kernel
theorem dX3_lettersWith_8 : decode cX3_lettersWith 8 = .ok (.aload_n 0, 1) := by decide +kernel
theorem dX3_lettersWith_9 : decode cX3_lettersWith 9 = .ok (.getfield 54, 3) := by decide +kernel
theorem dX3_lettersWith_12 : decode cX3_lettersWith 12 = .ok (.if_icmp .ge 33, 3) := by decide +kernel
theorem dX3_lettersWith_15 : decode cX3_lettersWith 15 = .ok (.aload_n 0, 1) := by decide +kernel
theorem dX3_lettersWith_16 : decode cX3_lettersWith 16 = .ok (.iload 5, 2) := by decide +kernel
theorem dX3_lettersWith_18 : decode cX3_lettersWith 18 = .ok (.iload_n 2, 1) := by decide +kernel
theorem dX3_lettersWith_19 : decode cX3_lettersWith 19 = .ok (.iload_n 3, 1) := by decide +kernel
theorem dX3_lettersWith_20 : decode cX3_lettersWith 20 = .ok (.invokevirtual 57, 3) := by decide +kernel
theorem dX3_lettersWith_23 : decode cX3_lettersWith 23 = .ok (.ifCond .eq 16, 3) := by decide +kernel
theorem dX3_lettersWith_26 : decode cX3_lettersWith 26 = .ok (.aload_n 0, 1) := by decide +kernel
theorem dX3_lettersWith_27 : decode cX3_lettersWith 27 = .ok (.iload 5, 2) := by decide +kernel
theorem dX3_lettersWith_29 : decode cX3_lettersWith 29 = .ok (.iload_n 1, 1) := by decide +kernel
theorem dX3_lettersWith_30 : decode cX3_lettersWith 30 = .ok (.invokevirtual 61, 3) := by decide +kernel
theorem dX3_lettersWith_33 : decode cX3_lettersWith 33 = .ok (.ifCond .eq 6, 3) := by decide +kernel
theorem dX3_lettersWith_36 : decode cX3_lettersWith 36 = .ok (.iinc 4 1, 3) := by decide +kernel
theorem dX3_lettersWith_39 : decode cX3_lettersWith 39 = .ok (.iinc 5 1, 3) := by decide +kernel
theorem dX3_lettersWith_42 : decode cX3_lettersWith 42 = .ok (.goto (-36), 3) := by decide +kernel
theorem dX3_lettersWith_45 : decode cX3_lettersWith 45 = .ok (.iload 4, 2) := by decide +kernel
theorem dX3_lettersWith_47 : decode cX3_lettersWith 47 = .ok (.ireturn, 1) := by decide +kernel
theorem dX3_isOn_0 : decode cX3_isOn 0 = .ok (.aload_n 0, 1) := by decide +kernel
theorem dX3_isOn_1 : decode cX3_isOn 1 = .ok (.getfield 30, 3) := by decide +kernel
theorem dX3_isOn_4 : decode cX3_isOn 4 = .ok (.iload_n 1, 1) := by decide +kernel
theorem dX3_isOn_5 : decode cX3_isOn 5 = .ok (.iaload, 1) := by decide +kernel
theorem dX3_isOn_6 : decode cX3_isOn 6 = .ok (.istore 4, 2) := by decide +kernel
theorem dX3_isOn_8 : decode cX3_isOn 8 = .ok (.aload_n 0, 1) := by decide +kernel
theorem dX3_isOn_9 : decode cX3_isOn 9 = .ok (.getfield 21, 3) := by decide +kernel
theorem dX3_isOn_12 : decode cX3_isOn 12 = .ok (.iload 4, 2) := by decide +kernel
theorem dX3_isOn_14 : decode cX3_isOn 14 = .ok (.iaload, 1) := by decide +kernel
theorem dX3_isOn_15 : decode cX3_isOn 15 = .ok (.iload_n 2, 1) := by decide +kernel
theorem dX3_isOn_16 : decode cX3_isOn 16 = .ok (.if_icmp .ne 18, 3) := by decide +kernel
theorem dX3_isOn_19 : decode cX3_isOn 19 = .ok (.aload_n 0, 1) := by decide +kernel
theorem dX3_isOn_20 : decode cX3_isOn 20 = .ok (.getfield 24, 3) := by decide +kernel
theorem dX3_isOn_23 : decode cX3_isOn 23 = .ok (.iload 4, 2) := by decide +kernel
theorem dX3_isOn_25 : decode cX3_isOn 25 = .ok (.iaload, 1) := by decide +kernel
theorem dX3_isOn_26 : decode cX3_isOn 26 = .ok (.iload_n 3, 1) := by decide +kernel
theorem dX3_isOn_27 : decode cX3_isOn 27 = .ok (.if_icmp .ne 7, 3) := by decide +kernel
theorem dX3_isOn_30 : decode cX3_isOn 30 = .ok (.iconst 1, 1) := by decide +kernel
theorem dX3_isOn_31 : decode cX3_isOn 31 = .ok (.goto 4, 3) := by decide +kernel
theorem dX3_isOn_34 : decode cX3_isOn 34 = .ok (.iconst 0, 1) := by decide +kernel
theorem dX3_isOn_35 : decode cX3_isOn 35 = .ok (.ireturn, 1) := by decide +kernel
theorem dX3_holds_0 : decode cX3_holds 0 = .ok (.iconst 0, 1) := by decide +kernel
theorem dX3_holds_1 : decode cX3_holds 1 = .ok (.istore_n 3, 1) := by decide +kernel
theorem dX3_holds_2 : decode cX3_holds 2 = .ok (.iload_n 3, 1) := by decide +kernel
theorem dX3_holds_3 : decode cX3_holds 3 = .ok (.aload_n 0, 1) := by decide +kernel
theorem dX3_holds_4 : decode cX3_holds 4 = .ok (.getfield 36, 3) := by decide +kernel
theorem dX3_holds_7 : decode cX3_holds 7 = .ok (.iload_n 1, 1) := by decide +kernel
theorem dX3_holds_8 : decode cX3_holds 8 = .ok (.iaload, 1) := by decide +kernel
theorem dX3_holds_9 : decode cX3_holds 9 = .ok (.if_icmp .ge 23, 3) := by decide +kernel
theorem dX3_holds_12 : decode cX3_holds 12 = .ok (.aload_n 0, 1) := by decide +kernel
theorem dX3_holds_13 : decode cX3_holds 13 = .ok (.getfield 41, 3) := by decide +kernel
theorem dX3_holds_16 : decode cX3_holds 16 = .ok (.iload_n 1, 1) := by decide +kernel
theorem dX3_holds_17 : decode cX3_holds 17 = .ok (.aaload, 1) := by decide +kernel
theorem dX3_holds_18 : decode cX3_holds 18 = .ok (.iload_n 3, 1) := by decide +kernel
theorem dX3_holds_19 : decode cX3_holds 19 = .ok (.iaload, 1) := by decide +kernel
theorem dX3_holds_20 : decode cX3_holds 20 = .ok (.iload_n 2, 1) := by decide +kernel
theorem dX3_holds_21 : decode cX3_holds 21 = .ok (.if_icmp .ne 5, 3) := by decide +kernel
theorem dX3_holds_24 : decode cX3_holds 24 = .ok (.iconst 1, 1) := by decide +kernel
theorem dX3_holds_25 : decode cX3_holds 25 = .ok (.ireturn, 1) := by decide +kernel
theorem dX3_holds_26 : decode cX3_holds 26 = .ok (.iinc 3 1, 3) := by decide +kernel
theorem dX3_holds_29 : decode cX3_holds 29 = .ok (.goto (-27), 3) := by decide +kernel
theorem dX3_holds_32 : decode cX3_holds 32 = .ok (.iconst 0, 1) := by decide +kernel
theorem dX3_holds_33 : decode cX3_holds 33 = .ok (.ireturn, 1) := by decide +kernel
theorem dX3_digestInto_0 : decode cX3_digestInto 0 = .ok (.lload_n 1, 1) := by decide +kernel
theorem dX3_digestInto_1 : decode cX3_digestInto 1 = .ok (.lstore_n 3, 1) := by decide +kernel
theorem dX3_digestInto_2 : decode cX3_digestInto 2 = .ok (.iconst 0, 1) := by decide +kernel
theorem dX3_digestInto_3 : decode cX3_digestInto 3 = .ok (.istore 5, 2) := by decide +kernel
theorem dX3_digestInto_5 : decode cX3_digestInto 5 = .ok (.iload 5, 2) := by decide +kernel
theorem dX3_digestInto_7 : decode cX3_digestInto 7 = .ok (.aload_n 0, 1) := by decide +kernel
theorem dX3_digestInto_8 : decode cX3_digestInto 8 = .ok (.getfield 44, 3) := by decide +kernel
theorem dX3_digestInto_11 : decode cX3_digestInto 11 = .ok (.if_icmp .ge 39, 3) := by decide +kernel
theorem dX3_digestInto_14 : decode cX3_digestInto 14 = .ok (.ldc2_w 65, 3) := by decide +kernel
theorem dX3_digestInto_17 : decode cX3_digestInto 17 = .ok (.lload_n 3, 1) := by decide +kernel
theorem dX3_digestInto_18 : decode cX3_digestInto 18 = .ok (.lmul, 1) := by decide +kernel
theorem dX3_digestInto_19 : decode cX3_digestInto 19 = .ok (.aload_n 0, 1) := by decide +kernel
theorem dX3_digestInto_20 : decode cX3_digestInto 20 = .ok (.getfield 9, 3) := by decide +kernel
theorem dX3_digestInto_23 : decode cX3_digestInto 23 = .ok (.iload 5, 2) := by decide +kernel
theorem dX3_digestInto_25 : decode cX3_digestInto 25 = .ok (.iaload, 1) := by decide +kernel
theorem dX3_digestInto_26 : decode cX3_digestInto 26 = .ok (.i2l, 1) := by decide +kernel
theorem dX3_digestInto_27 : decode cX3_digestInto 27 = .ok (.ladd, 1) := by decide +kernel
theorem dX3_digestInto_28 : decode cX3_digestInto 28 = .ok (.lstore_n 3, 1) := by decide +kernel
theorem dX3_digestInto_29 : decode cX3_digestInto 29 = .ok (.ldc2_w 65, 3) := by decide +kernel
theorem dX3_digestInto_32 : decode cX3_digestInto 32 = .ok (.lload_n 3, 1) := by decide +kernel
theorem dX3_digestInto_33 : decode cX3_digestInto 33 = .ok (.lmul, 1) := by decide +kernel
theorem dX3_digestInto_34 : decode cX3_digestInto 34 = .ok (.aload_n 0, 1) := by decide +kernel
theorem dX3_digestInto_35 : decode cX3_digestInto 35 = .ok (.getfield 15, 3) := by decide +kernel
theorem dX3_digestInto_38 : decode cX3_digestInto 38 = .ok (.iload 5, 2) := by decide +kernel
theorem dX3_digestInto_40 : decode cX3_digestInto 40 = .ok (.iaload, 1) := by decide +kernel
theorem dX3_digestInto_41 : decode cX3_digestInto 41 = .ok (.i2l, 1) := by decide +kernel
theorem dX3_digestInto_42 : decode cX3_digestInto 42 = .ok (.ladd, 1) := by decide +kernel
theorem dX3_digestInto_43 : decode cX3_digestInto 43 = .ok (.lstore_n 3, 1) := by decide +kernel
theorem dX3_digestInto_44 : decode cX3_digestInto 44 = .ok (.iinc 5 1, 3) := by decide +kernel
theorem dX3_digestInto_47 : decode cX3_digestInto 47 = .ok (.goto (-42), 3) := by decide +kernel
theorem dX3_digestInto_50 : decode cX3_digestInto 50 = .ok (.lload_n 3, 1) := by decide +kernel
theorem dX3_digestInto_51 : decode cX3_digestInto 51 = .ok (.aload_n 0, 1) := by decide +kernel
theorem dX3_digestInto_52 : decode cX3_digestInto 52 = .ok (.getfield 18, 3) := by decide +kernel
theorem dX3_digestInto_55 : decode cX3_digestInto 55 = .ok (.aload_n 0, 1) := by decide +kernel
theorem dX3_digestInto_56 : decode cX3_digestInto 56 = .ok (.getfield 48, 3) := by decide +kernel
theorem dX3_digestInto_59 : decode cX3_digestInto 59 = .ok (.invokestatic 67, 3) := by decide +kernel
theorem dX3_digestInto_62 : decode cX3_digestInto 62 = .ok (.lstore_n 3, 1) := by decide +kernel
theorem dX3_digestInto_63 : decode cX3_digestInto 63 = .ok (.iconst 0, 1) := by decide +kernel
theorem dX3_digestInto_64 : decode cX3_digestInto 64 = .ok (.istore 5, 2) := by decide +kernel
theorem dX3_digestInto_66 : decode cX3_digestInto 66 = .ok (.iload 5, 2) := by decide +kernel
theorem dX3_digestInto_68 : decode cX3_digestInto 68 = .ok (.aload_n 0, 1) := by decide +kernel
theorem dX3_digestInto_69 : decode cX3_digestInto 69 = .ok (.getfield 51, 3) := by decide +kernel
theorem dX3_digestInto_72 : decode cX3_digestInto 72 = .ok (.if_icmp .ge 39, 3) := by decide +kernel
theorem dX3_digestInto_75 : decode cX3_digestInto 75 = .ok (.ldc2_w 65, 3) := by decide +kernel
theorem dX3_digestInto_78 : decode cX3_digestInto 78 = .ok (.lload_n 3, 1) := by decide +kernel
theorem dX3_digestInto_79 : decode cX3_digestInto 79 = .ok (.lmul, 1) := by decide +kernel
theorem dX3_digestInto_80 : decode cX3_digestInto 80 = .ok (.aload_n 0, 1) := by decide +kernel
theorem dX3_digestInto_81 : decode cX3_digestInto 81 = .ok (.getfield 21, 3) := by decide +kernel
theorem dX3_digestInto_84 : decode cX3_digestInto 84 = .ok (.iload 5, 2) := by decide +kernel
theorem dX3_digestInto_86 : decode cX3_digestInto 86 = .ok (.iaload, 1) := by decide +kernel
theorem dX3_digestInto_87 : decode cX3_digestInto 87 = .ok (.i2l, 1) := by decide +kernel
theorem dX3_digestInto_88 : decode cX3_digestInto 88 = .ok (.ladd, 1) := by decide +kernel
theorem dX3_digestInto_89 : decode cX3_digestInto 89 = .ok (.lstore_n 3, 1) := by decide +kernel
theorem dX3_digestInto_90 : decode cX3_digestInto 90 = .ok (.ldc2_w 65, 3) := by decide +kernel
theorem dX3_digestInto_93 : decode cX3_digestInto 93 = .ok (.lload_n 3, 1) := by decide +kernel
theorem dX3_digestInto_94 : decode cX3_digestInto 94 = .ok (.lmul, 1) := by decide +kernel
theorem dX3_digestInto_95 : decode cX3_digestInto 95 = .ok (.aload_n 0, 1) := by decide +kernel
theorem dX3_digestInto_96 : decode cX3_digestInto 96 = .ok (.getfield 24, 3) := by decide +kernel
theorem dX3_digestInto_99 : decode cX3_digestInto 99 = .ok (.iload 5, 2) := by decide +kernel
theorem dX3_digestInto_101 : decode cX3_digestInto 101 = .ok (.iaload, 1) := by decide +kernel
theorem dX3_digestInto_102 : decode cX3_digestInto 102 = .ok (.i2l, 1) := by decide +kernel
theorem dX3_digestInto_103 : decode cX3_digestInto 103 = .ok (.ladd, 1) := by decide +kernel
theorem dX3_digestInto_104 : decode cX3_digestInto 104 = .ok (.lstore_n 3, 1) := by decide +kernel
theorem dX3_digestInto_105 : decode cX3_digestInto 105 = .ok (.iinc 5 1, 3) := by decide +kernel
theorem dX3_digestInto_108 : decode cX3_digestInto 108 = .ok (.goto (-42), 3) := by decide +kernel
theorem dX3_digestInto_111 : decode cX3_digestInto 111 = .ok (.iconst 0, 1) := by decide +kernel
theorem dX3_digestInto_112 : decode cX3_digestInto 112 = .ok (.istore 5, 2) := by decide +kernel
theorem dX3_digestInto_114 : decode cX3_digestInto 114 = .ok (.iload 5, 2) := by decide +kernel
theorem dX3_digestInto_116 : decode cX3_digestInto 116 = .ok (.aload_n 0, 1) := by decide +kernel
theorem dX3_digestInto_117 : decode cX3_digestInto 117 = .ok (.getfield 54, 3) := by decide +kernel
theorem dX3_digestInto_120 : decode cX3_digestInto 120 = .ok (.if_icmp .ge 88, 3) := by decide +kernel
theorem dX3_digestInto_123 : decode cX3_digestInto 123 = .ok (.ldc2_w 65, 3) := by decide +kernel
theorem dX3_digestInto_126 : decode cX3_digestInto 126 = .ok (.lload_n 3, 1) := by decide +kernel
theorem dX3_digestInto_127 : decode cX3_digestInto 127 = .ok (.lmul, 1) := by decide +kernel
theorem dX3_digestInto_128 : decode cX3_digestInto 128 = .ok (.aload_n 0, 1) := by decide +kernel
theorem dX3_digestInto_129 : decode cX3_digestInto 129 = .ok (.getfield 27, 3) := by decide +kernel
theorem dX3_digestInto_132 : decode cX3_digestInto 132 = .ok (.iload 5, 2) := by decide +kernel
theorem dX3_digestInto_134 : decode cX3_digestInto 134 = .ok (.iaload, 1) := by decide +kernel
theorem dX3_digestInto_135 : decode cX3_digestInto 135 = .ok (.i2l, 1) := by decide +kernel
theorem dX3_digestInto_136 : decode cX3_digestInto 136 = .ok (.ladd, 1) := by decide +kernel
theorem dX3_digestInto_137 : decode cX3_digestInto 137 = .ok (.lstore_n 3, 1) := by decide +kernel
theorem dX3_digestInto_138 : decode cX3_digestInto 138 = .ok (.ldc2_w 65, 3) := by decide +kernel
theorem dX3_digestInto_141 : decode cX3_digestInto 141 = .ok (.lload_n 3, 1) := by decide +kernel
theorem dX3_digestInto_142 : decode cX3_digestInto 142 = .ok (.lmul, 1) := by decide +kernel
theorem dX3_digestInto_143 : decode cX3_digestInto 143 = .ok (.aload_n 0, 1) := by decide +kernel
theorem dX3_digestInto_144 : decode cX3_digestInto 144 = .ok (.getfield 30, 3) := by decide +kernel
theorem dX3_digestInto_147 : decode cX3_digestInto 147 = .ok (.iload 5, 2) := by decide +kernel
theorem dX3_digestInto_149 : decode cX3_digestInto 149 = .ok (.iaload, 1) := by decide +kernel
theorem dX3_digestInto_150 : decode cX3_digestInto 150 = .ok (.i2l, 1) := by decide +kernel
theorem dX3_digestInto_151 : decode cX3_digestInto 151 = .ok (.ladd, 1) := by decide +kernel
theorem dX3_digestInto_152 : decode cX3_digestInto 152 = .ok (.lstore_n 3, 1) := by decide +kernel
theorem dX3_digestInto_153 : decode cX3_digestInto 153 = .ok (.ldc2_w 65, 3) := by decide +kernel
theorem dX3_digestInto_156 : decode cX3_digestInto 156 = .ok (.lload_n 3, 1) := by decide +kernel
theorem dX3_digestInto_157 : decode cX3_digestInto 157 = .ok (.lmul, 1) := by decide +kernel
theorem dX3_digestInto_158 : decode cX3_digestInto 158 = .ok (.aload_n 0, 1) := by decide +kernel
theorem dX3_digestInto_159 : decode cX3_digestInto 159 = .ok (.getfield 33, 3) := by decide +kernel
theorem dX3_digestInto_162 : decode cX3_digestInto 162 = .ok (.iload 5, 2) := by decide +kernel
theorem dX3_digestInto_164 : decode cX3_digestInto 164 = .ok (.iaload, 1) := by decide +kernel
theorem dX3_digestInto_165 : decode cX3_digestInto 165 = .ok (.i2l, 1) := by decide +kernel
theorem dX3_digestInto_166 : decode cX3_digestInto 166 = .ok (.ladd, 1) := by decide +kernel
theorem dX3_digestInto_167 : decode cX3_digestInto 167 = .ok (.lstore_n 3, 1) := by decide +kernel
theorem dX3_digestInto_168 : decode cX3_digestInto 168 = .ok (.ldc2_w 65, 3) := by decide +kernel
theorem dX3_digestInto_171 : decode cX3_digestInto 171 = .ok (.lload_n 3, 1) := by decide +kernel
theorem dX3_digestInto_172 : decode cX3_digestInto 172 = .ok (.lmul, 1) := by decide +kernel
theorem dX3_digestInto_173 : decode cX3_digestInto 173 = .ok (.aload_n 0, 1) := by decide +kernel
theorem dX3_digestInto_174 : decode cX3_digestInto 174 = .ok (.getfield 36, 3) := by decide +kernel
theorem dX3_digestInto_177 : decode cX3_digestInto 177 = .ok (.iload 5, 2) := by decide +kernel
theorem dX3_digestInto_179 : decode cX3_digestInto 179 = .ok (.iaload, 1) := by decide +kernel
theorem dX3_digestInto_180 : decode cX3_digestInto 180 = .ok (.i2l, 1) := by decide +kernel
theorem dX3_digestInto_181 : decode cX3_digestInto 181 = .ok (.ladd, 1) := by decide +kernel
theorem dX3_digestInto_182 : decode cX3_digestInto 182 = .ok (.lstore_n 3, 1) := by decide +kernel
theorem dX3_digestInto_183 : decode cX3_digestInto 183 = .ok (.lload_n 3, 1) := by decide +kernel
theorem dX3_digestInto_184 : decode cX3_digestInto 184 = .ok (.aload_n 0, 1) := by decide +kernel
theorem dX3_digestInto_185 : decode cX3_digestInto 185 = .ok (.getfield 41, 3) := by decide +kernel
theorem dX3_digestInto_188 : decode cX3_digestInto 188 = .ok (.iload 5, 2) := by decide +kernel
theorem dX3_digestInto_190 : decode cX3_digestInto 190 = .ok (.aaload, 1) := by decide +kernel
theorem dX3_digestInto_191 : decode cX3_digestInto 191 = .ok (.aload_n 0, 1) := by decide +kernel
theorem dX3_digestInto_192 : decode cX3_digestInto 192 = .ok (.getfield 36, 3) := by decide +kernel
theorem dX3_digestInto_195 : decode cX3_digestInto 195 = .ok (.iload 5, 2) := by decide +kernel
theorem dX3_digestInto_197 : decode cX3_digestInto 197 = .ok (.iaload, 1) := by decide +kernel
theorem dX3_digestInto_198 : decode cX3_digestInto 198 = .ok (.invokestatic 67, 3) := by decide +kernel
theorem dX3_digestInto_201 : decode cX3_digestInto 201 = .ok (.lstore_n 3, 1) := by decide +kernel
theorem dX3_digestInto_202 : decode cX3_digestInto 202 = .ok (.iinc 5 1, 3) := by decide +kernel
theorem dX3_digestInto_205 : decode cX3_digestInto 205 = .ok (.goto (-91), 3) := by decide +kernel
theorem dX3_digestInto_208 : decode cX3_digestInto 208 = .ok (.lload_n 3, 1) := by decide +kernel
theorem dX3_digestInto_209 : decode cX3_digestInto 209 = .ok (.lreturn, 1) := by decide +kernel
theorem dX4_init_0 : decode cX4_init 0 = .ok (.aload_n 0, 1) := by decide +kernel
theorem dX4_init_1 : decode cX4_init 1 = .ok (.invokespecial 3, 3) := by decide +kernel
theorem dX4_init_4 : decode cX4_init 4 = .ok (.aload_n 0, 1) := by decide +kernel
theorem dX4_init_5 : decode cX4_init 5 = .ok (.bipush 6, 2) := by decide +kernel
theorem dX4_init_7 : decode cX4_init 7 = .ok (.newarray .int, 2) := by decide +kernel
theorem dX4_init_9 : decode cX4_init 9 = .ok (.putfield 9, 3) := by decide +kernel
theorem dX4_init_12 : decode cX4_init 12 = .ok (.aload_n 0, 1) := by decide +kernel
theorem dX4_init_13 : decode cX4_init 13 = .ok (.bipush 6, 2) := by decide +kernel
theorem dX4_init_15 : decode cX4_init 15 = .ok (.iconst 4, 1) := by decide +kernel
theorem dX4_init_16 : decode cX4_init 16 = .ok (.multianewarray 15 2, 4) := by decide +kernel
theorem dX4_init_20 : decode cX4_init 20 = .ok (.putfield 17, 3) := by decide +kernel
theorem dX4_init_23 : decode cX4_init 23 = .ok (.aload_n 0, 1) := by decide +kernel
theorem dX4_init_24 : decode cX4_init 24 = .ok (.iconst 4, 1) := by decide +kernel
theorem dX4_init_25 : decode cX4_init 25 = .ok (.bipush 64, 2) := by decide +kernel
theorem dX4_init_27 : decode cX4_init 27 = .ok (.multianewarray 20 2, 4) := by decide +kernel
theorem dX4_init_31 : decode cX4_init 31 = .ok (.putfield 22, 3) := by decide +kernel
theorem dX4_init_34 : decode cX4_init 34 = .ok (.aload_n 0, 1) := by decide +kernel
theorem dX4_init_35 : decode cX4_init 35 = .ok (.aload_n 1, 1) := by decide +kernel
theorem dX4_init_36 : decode cX4_init 36 = .ok (.putfield 25, 3) := by decide +kernel
theorem dX4_init_39 : decode cX4_init 39 = .ok (.return_, 1) := by decide +kernel
theorem dX4_add_0 : decode cX4_add 0 = .ok (.aload_n 0, 1) := by decide +kernel
theorem dX4_add_1 : decode cX4_add 1 = .ok (.getfield 28, 3) := by decide +kernel
theorem dX4_add_4 : decode cX4_add 4 = .ok (.bipush 6, 2) := by decide +kernel
theorem dX4_add_6 : decode cX4_add 6 = .ok (.if_icmp .lt 6, 3) := by decide +kernel
theorem dX4_add_9 : decode cX4_add 9 = .ok (.bipush (-4), 2) := by decide +kernel
theorem dX4_add_11 : decode cX4_add 11 = .ok (.ireturn, 1) := by decide +kernel
theorem dX4_add_12 : decode cX4_add 12 = .ok (.aload_n 0, 1) := by decide +kernel
theorem dX4_add_13 : decode cX4_add 13 = .ok (.getfield 9, 3) := by decide +kernel
theorem dX4_add_16 : decode cX4_add 16 = .ok (.aload_n 0, 1) := by decide +kernel
theorem dX4_add_17 : decode cX4_add 17 = .ok (.getfield 28, 3) := by decide +kernel
theorem dX4_add_20 : decode cX4_add 20 = .ok (.iload_n 1, 1) := by decide +kernel
theorem dX4_add_21 : decode cX4_add 21 = .ok (.iastore, 1) := by decide +kernel
theorem dX4_add_22 : decode cX4_add 22 = .ok (.aload_n 0, 1) := by decide +kernel
theorem dX4_add_23 : decode cX4_add 23 = .ok (.getfield 17, 3) := by decide +kernel
theorem dX4_add_26 : decode cX4_add 26 = .ok (.aload_n 0, 1) := by decide +kernel
theorem dX4_add_27 : decode cX4_add 27 = .ok (.getfield 28, 3) := by decide +kernel
theorem dX4_add_30 : decode cX4_add 30 = .ok (.aaload, 1) := by decide +kernel
theorem dX4_add_31 : decode cX4_add 31 = .ok (.iconst 0, 1) := by decide +kernel
theorem dX4_add_32 : decode cX4_add 32 = .ok (.iload_n 2, 1) := by decide +kernel
theorem dX4_add_33 : decode cX4_add 33 = .ok (.iastore, 1) := by decide +kernel
theorem dX4_add_34 : decode cX4_add 34 = .ok (.aload_n 0, 1) := by decide +kernel
theorem dX4_add_35 : decode cX4_add 35 = .ok (.getfield 17, 3) := by decide +kernel
theorem dX4_add_38 : decode cX4_add 38 = .ok (.aload_n 0, 1) := by decide +kernel
theorem dX4_add_39 : decode cX4_add 39 = .ok (.getfield 28, 3) := by decide +kernel
theorem dX4_add_42 : decode cX4_add 42 = .ok (.aaload, 1) := by decide +kernel
theorem dX4_add_43 : decode cX4_add 43 = .ok (.iconst 1, 1) := by decide +kernel
theorem dX4_add_44 : decode cX4_add 44 = .ok (.iload_n 3, 1) := by decide +kernel
theorem dX4_add_45 : decode cX4_add 45 = .ok (.iastore, 1) := by decide +kernel
theorem dX4_add_46 : decode cX4_add 46 = .ok (.aload_n 0, 1) := by decide +kernel
theorem dX4_add_47 : decode cX4_add 47 = .ok (.getfield 17, 3) := by decide +kernel
theorem dX4_add_50 : decode cX4_add 50 = .ok (.aload_n 0, 1) := by decide +kernel
theorem dX4_add_51 : decode cX4_add 51 = .ok (.getfield 28, 3) := by decide +kernel
theorem dX4_add_54 : decode cX4_add 54 = .ok (.aaload, 1) := by decide +kernel
theorem dX4_add_55 : decode cX4_add 55 = .ok (.iconst 2, 1) := by decide +kernel
theorem dX4_add_56 : decode cX4_add 56 = .ok (.iload 4, 2) := by decide +kernel
theorem dX4_add_58 : decode cX4_add 58 = .ok (.iastore, 1) := by decide +kernel
theorem dX4_add_59 : decode cX4_add 59 = .ok (.aload_n 0, 1) := by decide +kernel
theorem dX4_add_60 : decode cX4_add 60 = .ok (.getfield 17, 3) := by decide +kernel
theorem dX4_add_63 : decode cX4_add 63 = .ok (.aload_n 0, 1) := by decide +kernel
theorem dX4_add_64 : decode cX4_add 64 = .ok (.getfield 28, 3) := by decide +kernel
theorem dX4_add_67 : decode cX4_add 67 = .ok (.aaload, 1) := by decide +kernel
theorem dX4_add_68 : decode cX4_add 68 = .ok (.iconst 3, 1) := by decide +kernel
theorem dX4_add_69 : decode cX4_add 69 = .ok (.iload 5, 2) := by decide +kernel
theorem dX4_add_71 : decode cX4_add 71 = .ok (.iastore, 1) := by decide +kernel
theorem dX4_add_72 : decode cX4_add 72 = .ok (.aload_n 0, 1) := by decide +kernel
theorem dX4_add_73 : decode cX4_add 73 = .ok (.dup, 1) := by decide +kernel
theorem dX4_add_74 : decode cX4_add 74 = .ok (.getfield 28, 3) := by decide +kernel
theorem dX4_add_77 : decode cX4_add 77 = .ok (.dup_x1, 1) := by decide +kernel
theorem dX4_add_78 : decode cX4_add 78 = .ok (.iconst 1, 1) := by decide +kernel
theorem dX4_add_79 : decode cX4_add 79 = .ok (.iadd, 1) := by decide +kernel
theorem dX4_add_80 : decode cX4_add 80 = .ok (.putfield 28, 3) := by decide +kernel
theorem dX4_add_83 : decode cX4_add 83 = .ok (.ireturn, 1) := by decide +kernel
theorem dX4_guessedRight_0 : decode cX4_guessedRight 0 = .ok (.iconst 1, 1) := by decide +kernel
theorem dX4_guessedRight_1 : decode cX4_guessedRight 1 = .ok (.istore_n 2, 1) := by decide +kernel
theorem dX4_guessedRight_2 : decode cX4_guessedRight 2 = .ok (.iconst 0, 1) := by decide +kernel
theorem dX4_guessedRight_3 : decode cX4_guessedRight 3 = .ok (.istore_n 3, 1) := by decide +kernel
theorem dX4_guessedRight_4 : decode cX4_guessedRight 4 = .ok (.iload_n 3, 1) := by decide +kernel
theorem dX4_guessedRight_5 : decode cX4_guessedRight 5 = .ok (.iconst 4, 1) := by decide +kernel
theorem dX4_guessedRight_6 : decode cX4_guessedRight 6 = .ok (.if_icmp .ge 24, 3) := by decide +kernel
theorem dX4_guessedRight_9 : decode cX4_guessedRight 9 = .ok (.aload_n 0, 1) := by decide +kernel
theorem dX4_guessedRight_10 : decode cX4_guessedRight 10 = .ok (.getfield 22, 3) := by decide +kernel
theorem dX4_guessedRight_13 : decode cX4_guessedRight 13 = .ok (.iload_n 3, 1) := by decide +kernel
theorem dX4_guessedRight_14 : decode cX4_guessedRight 14 = .ok (.aaload, 1) := by decide +kernel
theorem dX4_guessedRight_15 : decode cX4_guessedRight 15 = .ok (.iconst 0, 1) := by decide +kernel
theorem dX4_guessedRight_16 : decode cX4_guessedRight 16 = .ok (.aload_n 0, 1) := by decide +kernel
theorem dX4_guessedRight_17 : decode cX4_guessedRight 17 = .ok (.getfield 25, 3) := by decide +kernel
theorem dX4_guessedRight_20 : decode cX4_guessedRight 20 = .ok (.iload_n 3, 1) := by decide +kernel
theorem dX4_guessedRight_21 : decode cX4_guessedRight 21 = .ok (.iaload, 1) := by decide +kernel
theorem dX4_guessedRight_22 : decode cX4_guessedRight 22 = .ok (.i2l, 1) := by decide +kernel
theorem dX4_guessedRight_23 : decode cX4_guessedRight 23 = .ok (.lastore, 1) := by decide +kernel
theorem dX4_guessedRight_24 : decode cX4_guessedRight 24 = .ok (.iinc 3 1, 3) := by decide +kernel
theorem dX4_guessedRight_27 : decode cX4_guessedRight 27 = .ok (.goto (-23), 3) := by decide +kernel
theorem dX4_guessedRight_30 : decode cX4_guessedRight 30 = .ok (.iconst 0, 1) := by decide +kernel
theorem dX4_guessedRight_31 : decode cX4_guessedRight 31 = .ok (.istore_n 3, 1) := by decide +kernel
theorem dX4_guessedRight_32 : decode cX4_guessedRight 32 = .ok (.iload_n 3, 1) := by decide +kernel
theorem dX4_guessedRight_33 : decode cX4_guessedRight 33 = .ok (.aload_n 0, 1) := by decide +kernel
theorem dX4_guessedRight_34 : decode cX4_guessedRight 34 = .ok (.getfield 28, 3) := by decide +kernel
theorem dX4_guessedRight_37 : decode cX4_guessedRight 37 = .ok (.if_icmp .ge 28, 3) := by decide +kernel
theorem dX4_guessedRight_40 : decode cX4_guessedRight 40 = .ok (.iload_n 1, 1) := by decide +kernel
theorem dX4_guessedRight_41 : decode cX4_guessedRight 41 = .ok (.iload_n 3, 1) := by decide +kernel
theorem dX4_guessedRight_42 : decode cX4_guessedRight 42 = .ok (.ishr, 1) := by decide +kernel
theorem dX4_guessedRight_43 : decode cX4_guessedRight 43 = .ok (.iconst 1, 1) := by decide +kernel
theorem dX4_guessedRight_44 : decode cX4_guessedRight 44 = .ok (.iand, 1) := by decide +kernel
theorem dX4_guessedRight_45 : decode cX4_guessedRight 45 = .ok (.iconst 1, 1) := by decide +kernel
theorem dX4_guessedRight_46 : decode cX4_guessedRight 46 = .ok (.if_icmp .ne 13, 3) := by decide +kernel
theorem dX4_guessedRight_49 : decode cX4_guessedRight 49 = .ok (.aload_n 0, 1) := by decide +kernel
theorem dX4_guessedRight_50 : decode cX4_guessedRight 50 = .ok (.iload_n 3, 1) := by decide +kernel
theorem dX4_guessedRight_51 : decode cX4_guessedRight 51 = .ok (.iload_n 2, 1) := by decide +kernel
theorem dX4_guessedRight_52 : decode cX4_guessedRight 52 = .ok (.invokevirtual 32, 3) := by decide +kernel
theorem dX4_guessedRight_55 : decode cX4_guessedRight 55 = .ok (.iload_n 2, 1) := by decide +kernel
theorem dX4_guessedRight_56 : decode cX4_guessedRight 56 = .ok (.iconst 2, 1) := by decide +kernel
theorem dX4_guessedRight_57 : decode cX4_guessedRight 57 = .ok (.imul, 1) := by decide +kernel
theorem dX4_guessedRight_58 : decode cX4_guessedRight 58 = .ok (.istore_n 2, 1) := by decide +kernel
theorem dX4_guessedRight_59 : decode cX4_guessedRight 59 = .ok (.iinc 3 1, 3) := by decide +kernel
theorem dX4_guessedRight_62 : decode cX4_guessedRight 62 = .ok (.goto (-30), 3) := by decide +kernel
theorem dX4_guessedRight_65 : decode cX4_guessedRight 65 = .ok (.lconst 0, 1) := by decide +kernel
theorem dX4_guessedRight_66 : decode cX4_guessedRight 66 = .ok (.lstore_n 3, 1) := by decide +kernel
theorem dX4_guessedRight_67 : decode cX4_guessedRight 67 = .ok (.iconst 0, 1) := by decide +kernel
theorem dX4_guessedRight_68 : decode cX4_guessedRight 68 = .ok (.istore 5, 2) := by decide +kernel
theorem dX4_guessedRight_70 : decode cX4_guessedRight 70 = .ok (.iload 5, 2) := by decide +kernel
theorem dX4_guessedRight_72 : decode cX4_guessedRight 72 = .ok (.iload_n 2, 1) := by decide +kernel
theorem dX4_guessedRight_73 : decode cX4_guessedRight 73 = .ok (.if_icmp .ge 49, 3) := by decide +kernel
theorem dX4_guessedRight_76 : decode cX4_guessedRight 76 = .ok (.lconst 0, 1) := by decide +kernel
theorem dX4_guessedRight_77 : decode cX4_guessedRight 77 = .ok (.lstore 6, 2) := by decide +kernel
theorem dX4_guessedRight_79 : decode cX4_guessedRight 79 = .ok (.iconst 0, 1) := by decide +kernel
theorem dX4_guessedRight_80 : decode cX4_guessedRight 80 = .ok (.istore 8, 2) := by decide +kernel
theorem dX4_guessedRight_82 : decode cX4_guessedRight 82 = .ok (.iload 8, 2) := by decide +kernel
theorem dX4_guessedRight_84 : decode cX4_guessedRight 84 = .ok (.iconst 4, 1) := by decide +kernel
theorem dX4_guessedRight_85 : decode cX4_guessedRight 85 = .ok (.if_icmp .ge 26, 3) := by decide +kernel
theorem dX4_guessedRight_88 : decode cX4_guessedRight 88 = .ok (.lload 6, 2) := by decide +kernel
theorem dX4_guessedRight_90 : decode cX4_guessedRight 90 = .ok (.aload_n 0, 1) := by decide +kernel
theorem dX4_guessedRight_91 : decode cX4_guessedRight 91 = .ok (.getfield 22, 3) := by decide +kernel
theorem dX4_guessedRight_94 : decode cX4_guessedRight 94 = .ok (.iload 8, 2) := by decide +kernel
theorem dX4_guessedRight_96 : decode cX4_guessedRight 96 = .ok (.aaload, 1) := by decide +kernel
theorem dX4_guessedRight_97 : decode cX4_guessedRight 97 = .ok (.iload 5, 2) := by decide +kernel
theorem dX4_guessedRight_99 : decode cX4_guessedRight 99 = .ok (.laload, 1) := by decide +kernel
theorem dX4_guessedRight_100 : decode cX4_guessedRight 100 = .ok (.invokestatic 36, 3) := by decide +kernel
theorem dX4_guessedRight_103 : decode cX4_guessedRight 103 = .ok (.lstore 6, 2) := by decide +kernel
theorem dX4_guessedRight_105 : decode cX4_guessedRight 105 = .ok (.iinc 8 1, 3) := by decide +kernel
theorem dX4_guessedRight_108 : decode cX4_guessedRight 108 = .ok (.goto (-26), 3) := by decide +kernel
theorem dX4_guessedRight_111 : decode cX4_guessedRight 111 = .ok (.lload_n 3, 1) := by decide +kernel
theorem dX4_guessedRight_112 : decode cX4_guessedRight 112 = .ok (.lload 6, 2) := by decide +kernel
theorem dX4_guessedRight_114 : decode cX4_guessedRight 114 = .ok (.ladd, 1) := by decide +kernel
theorem dX4_guessedRight_115 : decode cX4_guessedRight 115 = .ok (.lstore_n 3, 1) := by decide +kernel
theorem dX4_guessedRight_116 : decode cX4_guessedRight 116 = .ok (.iinc 5 1, 3) := by decide +kernel
theorem dX4_guessedRight_119 : decode cX4_guessedRight 119 = .ok (.goto (-49), 3) := by decide +kernel
theorem dX4_guessedRight_122 : decode cX4_guessedRight 122 = .ok (.lload_n 3, 1) := by decide +kernel
theorem dX4_guessedRight_123 : decode cX4_guessedRight 123 = .ok (.lreturn, 1) := by decide +kernel
theorem dX4_ask_0 : decode cX4_ask 0 = .ok (.iconst 0, 1) := by decide +kernel
theorem dX4_ask_1 : decode cX4_ask 1 = .ok (.istore_n 3, 1) := by decide +kernel
theorem dX4_ask_2 : decode cX4_ask 2 = .ok (.iload_n 3, 1) := by decide +kernel
theorem dX4_ask_3 : decode cX4_ask 3 = .ok (.iconst 4, 1) := by decide +kernel
theorem dX4_ask_4 : decode cX4_ask 4 = .ok (.if_icmp .ge 78, 3) := by decide +kernel
theorem dX4_ask_7 : decode cX4_ask 7 = .ok (.iconst 0, 1) := by decide +kernel
theorem dX4_ask_8 : decode cX4_ask 8 = .ok (.istore 4, 2) := by decide +kernel
theorem dX4_ask_10 : decode cX4_ask 10 = .ok (.iload 4, 2) := by decide +kernel
theorem dX4_ask_12 : decode cX4_ask 12 = .ok (.iload_n 2, 1) := by decide +kernel
theorem dX4_ask_13 : decode cX4_ask 13 = .ok (.if_icmp .ge 63, 3) := by decide +kernel
theorem dX4_ask_16 : decode cX4_ask 16 = .ok (.aload_n 0, 1) := by decide +kernel
theorem dX4_ask_17 : decode cX4_ask 17 = .ok (.getfield 22, 3) := by decide +kernel
theorem dX4_ask_20 : decode cX4_ask 20 = .ok (.iload_n 3, 1) := by decide +kernel
theorem dX4_ask_21 : decode cX4_ask 21 = .ok (.aaload, 1) := by decide +kernel
theorem dX4_ask_22 : decode cX4_ask 22 = .ok (.iload_n 2, 1) := by decide +kernel
theorem dX4_ask_23 : decode cX4_ask 23 = .ok (.iload 4, 2) := by decide +kernel
theorem dX4_ask_25 : decode cX4_ask 25 = .ok (.iadd, 1) := by decide +kernel
theorem dX4_ask_26 : decode cX4_ask 26 = .ok (.aload_n 0, 1) := by decide +kernel
theorem dX4_ask_27 : decode cX4_ask 27 = .ok (.getfield 22, 3) := by decide +kernel
theorem dX4_ask_30 : decode cX4_ask 30 = .ok (.iload_n 3, 1) := by decide +kernel
theorem dX4_ask_31 : decode cX4_ask 31 = .ok (.aaload, 1) := by decide +kernel
theorem dX4_ask_32 : decode cX4_ask 32 = .ok (.iload 4, 2) := by decide +kernel
theorem dX4_ask_34 : decode cX4_ask 34 = .ok (.laload, 1) := by decide +kernel
theorem dX4_ask_35 : decode cX4_ask 35 = .ok (.aload_n 0, 1) := by decide +kernel
theorem dX4_ask_36 : decode cX4_ask 36 = .ok (.getfield 17, 3) := by decide +kernel
theorem dX4_ask_39 : decode cX4_ask 39 = .ok (.iload_n 1, 1) := by decide +kernel
theorem dX4_ask_40 : decode cX4_ask 40 = .ok (.aaload, 1) := by decide +kernel
theorem dX4_ask_41 : decode cX4_ask 41 = .ok (.iload_n 3, 1) := by decide +kernel
theorem dX4_ask_42 : decode cX4_ask 42 = .ok (.iaload, 1) := by decide +kernel
theorem dX4_ask_43 : decode cX4_ask 43 = .ok (.i2l, 1) := by decide +kernel
theorem dX4_ask_44 : decode cX4_ask 44 = .ok (.lmul, 1) := by decide +kernel
theorem dX4_ask_45 : decode cX4_ask 45 = .ok (.lastore, 1) := by decide +kernel
theorem dX4_ask_46 : decode cX4_ask 46 = .ok (.aload_n 0, 1) := by decide +kernel
theorem dX4_ask_47 : decode cX4_ask 47 = .ok (.getfield 22, 3) := by decide +kernel
theorem dX4_ask_50 : decode cX4_ask 50 = .ok (.iload_n 3, 1) := by decide +kernel
theorem dX4_ask_51 : decode cX4_ask 51 = .ok (.aaload, 1) := by decide +kernel
theorem dX4_ask_52 : decode cX4_ask 52 = .ok (.iload 4, 2) := by decide +kernel
theorem dX4_ask_54 : decode cX4_ask 54 = .ok (.dup2, 1) := by decide +kernel
theorem dX4_ask_55 : decode cX4_ask 55 = .ok (.laload, 1) := by decide +kernel
theorem dX4_ask_56 : decode cX4_ask 56 = .ok (.bipush 100, 2) := by decide +kernel
theorem dX4_ask_58 : decode cX4_ask 58 = .ok (.aload_n 0, 1) := by decide +kernel
theorem dX4_ask_59 : decode cX4_ask 59 = .ok (.getfield 17, 3) := by decide +kernel
theorem dX4_ask_62 : decode cX4_ask 62 = .ok (.iload_n 1, 1) := by decide +kernel
theorem dX4_ask_63 : decode cX4_ask 63 = .ok (.aaload, 1) := by decide +kernel
theorem dX4_ask_64 : decode cX4_ask 64 = .ok (.iload_n 3, 1) := by decide +kernel
theorem dX4_ask_65 : decode cX4_ask 65 = .ok (.iaload, 1) := by decide +kernel
theorem dX4_ask_66 : decode cX4_ask 66 = .ok (.isub, 1) := by decide +kernel
theorem dX4_ask_67 : decode cX4_ask 67 = .ok (.i2l, 1) := by decide +kernel
theorem dX4_ask_68 : decode cX4_ask 68 = .ok (.lmul, 1) := by decide +kernel
theorem dX4_ask_69 : decode cX4_ask 69 = .ok (.lastore, 1) := by decide +kernel
theorem dX4_ask_70 : decode cX4_ask 70 = .ok (.iinc 4 1, 3) := by decide +kernel
theorem dX4_ask_73 : decode cX4_ask 73 = .ok (.goto (-63), 3) := by decide +kernel
theorem dX4_ask_76 : decode cX4_ask 76 = .ok (.iinc 3 1, 3) := by decide +kernel
theorem dX4_ask_79 : decode cX4_ask 79 = .ok (.goto (-77), 3) := by decide +kernel
theorem dX4_ask_82 : decode cX4_ask 82 = .ok (.return_, 1) := by decide +kernel
theorem dX4_allGuesses_0 : decode cX4_allGuesses 0 = .ok (.lconst 0, 1) := by decide +kernel
theorem dX4_allGuesses_1 : decode cX4_allGuesses 1 = .ok (.lstore_n 2, 1) := by decide +kernel
theorem dX4_allGuesses_2 : decode cX4_allGuesses 2 = .ok (.iconst 0, 1) := by decide +kernel
theorem dX4_allGuesses_3 : decode cX4_allGuesses 3 = .ok (.istore 4, 2) := by decide +kernel
theorem dX4_allGuesses_5 : decode cX4_allGuesses 5 = .ok (.iload 4, 2) := by decide +kernel
theorem dX4_allGuesses_7 : decode cX4_allGuesses 7 = .ok (.iconst 4, 1) := by decide +kernel
theorem dX4_allGuesses_8 : decode cX4_allGuesses 8 = .ok (.if_icmp .ge 20, 3) := by decide +kernel
theorem dX4_allGuesses_11 : decode cX4_allGuesses 11 = .ok (.lload_n 2, 1) := by decide +kernel
theorem dX4_allGuesses_12 : decode cX4_allGuesses 12 = .ok (.aload_n 0, 1) := by decide +kernel
theorem dX4_allGuesses_13 : decode cX4_allGuesses 13 = .ok (.getfield 25, 3) := by decide +kernel
theorem dX4_allGuesses_16 : decode cX4_allGuesses 16 = .ok (.iload 4, 2) := by decide +kernel
theorem dX4_allGuesses_18 : decode cX4_allGuesses 18 = .ok (.iaload, 1) := by decide +kernel
theorem dX4_allGuesses_19 : decode cX4_allGuesses 19 = .ok (.i2l, 1) := by decide +kernel
theorem dX4_allGuesses_20 : decode cX4_allGuesses 20 = .ok (.ladd, 1) := by decide +kernel
theorem dX4_allGuesses_21 : decode cX4_allGuesses 21 = .ok (.lstore_n 2, 1) := by decide +kernel
theorem dX4_allGuesses_22 : decode cX4_allGuesses 22 = .ok (.iinc 4 1, 3) := by decide +kernel
theorem dX4_allGuesses_25 : decode cX4_allGuesses 25 = .ok (.goto (-20), 3) := by decide +kernel
theorem dX4_allGuesses_28 : decode cX4_allGuesses 28 = .ok (.lload_n 2, 1) := by decide +kernel
theorem dX4_allGuesses_29 : decode cX4_allGuesses 29 = .ok (.iload_n 1, 1) := by decide +kernel
theorem dX4_allGuesses_30 : decode cX4_allGuesses 30 = .ok (.invokestatic 42, 3) := by decide +kernel
theorem dX4_allGuesses_33 : decode cX4_allGuesses 33 = .ok (.invokestatic 48, 3) := by decide +kernel
theorem dX4_allGuesses_36 : decode cX4_allGuesses 36 = .ok (.lmul, 1) := by decide +kernel
theorem dX4_allGuesses_37 : decode cX4_allGuesses 37 = .ok (.lreturn, 1) := by decide +kernel
theorem dX4_hundreds_0 : decode cX4_hundreds 0 = .ok (.lconst 1, 1) := by decide +kernel
theorem dX4_hundreds_1 : decode cX4_hundreds 1 = .ok (.lstore_n 1, 1) := by decide +kernel
theorem dX4_hundreds_2 : decode cX4_hundreds 2 = .ok (.iconst 0, 1) := by decide +kernel
theorem dX4_hundreds_3 : decode cX4_hundreds 3 = .ok (.istore_n 3, 1) := by decide +kernel
theorem dX4_hundreds_4 : decode cX4_hundreds 4 = .ok (.iload_n 3, 1) := by decide +kernel
theorem dX4_hundreds_5 : decode cX4_hundreds 5 = .ok (.iload_n 0, 1) := by decide +kernel
theorem dX4_hundreds_6 : decode cX4_hundreds 6 = .ok (.if_icmp .ge 15, 3) := by decide +kernel
theorem dX4_hundreds_9 : decode cX4_hundreds 9 = .ok (.lload_n 1, 1) := by decide +kernel
theorem dX4_hundreds_10 : decode cX4_hundreds 10 = .ok (.ldc2_w 52, 3) := by decide +kernel
theorem dX4_hundreds_13 : decode cX4_hundreds 13 = .ok (.lmul, 1) := by decide +kernel
theorem dX4_hundreds_14 : decode cX4_hundreds 14 = .ok (.lstore_n 1, 1) := by decide +kernel
theorem dX4_hundreds_15 : decode cX4_hundreds 15 = .ok (.iinc 3 1, 3) := by decide +kernel
theorem dX4_hundreds_18 : decode cX4_hundreds 18 = .ok (.goto (-14), 3) := by decide +kernel
theorem dX4_hundreds_21 : decode cX4_hundreds 21 = .ok (.lload_n 1, 1) := by decide +kernel
theorem dX4_hundreds_22 : decode cX4_hundreds 22 = .ok (.lreturn, 1) := by decide +kernel
theorem dX4_minutesOf_0 : decode cX4_minutesOf 0 = .ok (.iconst 0, 1) := by decide +kernel
theorem dX4_minutesOf_1 : decode cX4_minutesOf 1 = .ok (.istore_n 2, 1) := by decide +kernel
theorem dX4_minutesOf_2 : decode cX4_minutesOf 2 = .ok (.iconst 0, 1) := by decide +kernel
theorem dX4_minutesOf_3 : decode cX4_minutesOf 3 = .ok (.istore_n 3, 1) := by decide +kernel
theorem dX4_minutesOf_4 : decode cX4_minutesOf 4 = .ok (.iload_n 3, 1) := by decide +kernel
theorem dX4_minutesOf_5 : decode cX4_minutesOf 5 = .ok (.aload_n 0, 1) := by decide +kernel
theorem dX4_minutesOf_6 : decode cX4_minutesOf 6 = .ok (.getfield 28, 3) := by decide +kernel
theorem dX4_minutesOf_9 : decode cX4_minutesOf 9 = .ok (.if_icmp .ge 27, 3) := by decide +kernel
theorem dX4_minutesOf_12 : decode cX4_minutesOf 12 = .ok (.iload_n 1, 1) := by decide +kernel
theorem dX4_minutesOf_13 : decode cX4_minutesOf 13 = .ok (.iload_n 3, 1) := by decide +kernel
theorem dX4_minutesOf_14 : decode cX4_minutesOf 14 = .ok (.ishr, 1) := by decide +kernel
theorem dX4_minutesOf_15 : decode cX4_minutesOf 15 = .ok (.iconst 1, 1) := by decide +kernel
theorem dX4_minutesOf_16 : decode cX4_minutesOf 16 = .ok (.iand, 1) := by decide +kernel
theorem dX4_minutesOf_17 : decode cX4_minutesOf 17 = .ok (.iconst 1, 1) := by decide +kernel
theorem dX4_minutesOf_18 : decode cX4_minutesOf 18 = .ok (.if_icmp .ne 12, 3) := by decide +kernel
theorem dX4_minutesOf_21 : decode cX4_minutesOf 21 = .ok (.iload_n 2, 1) := by decide +kernel
theorem dX4_minutesOf_22 : decode cX4_minutesOf 22 = .ok (.aload_n 0, 1) := by decide +kernel
theorem dX4_minutesOf_23 : decode cX4_minutesOf 23 = .ok (.getfield 9, 3) := by decide +kernel
theorem dX4_minutesOf_26 : decode cX4_minutesOf 26 = .ok (.iload_n 3, 1) := by decide +kernel
theorem dX4_minutesOf_27 : decode cX4_minutesOf 27 = .ok (.iaload, 1) := by decide +kernel
theorem dX4_minutesOf_28 : decode cX4_minutesOf 28 = .ok (.iadd, 1) := by decide +kernel
theorem dX4_minutesOf_29 : decode cX4_minutesOf 29 = .ok (.istore_n 2, 1) := by decide +kernel
theorem dX4_minutesOf_30 : decode cX4_minutesOf 30 = .ok (.iinc 3 1, 3) := by decide +kernel
theorem dX4_minutesOf_33 : decode cX4_minutesOf 33 = .ok (.goto (-29), 3) := by decide +kernel
theorem dX4_minutesOf_36 : decode cX4_minutesOf 36 = .ok (.iload_n 2, 1) := by decide +kernel
theorem dX4_minutesOf_37 : decode cX4_minutesOf 37 = .ok (.ireturn, 1) := by decide +kernel
theorem dX4_bestWithin_0 : decode cX4_bestWithin 0 = .ok (.iconst 0, 1) := by decide +kernel
theorem dX4_bestWithin_1 : decode cX4_bestWithin 1 = .ok (.istore_n 2, 1) := by decide +kernel
theorem dX4_bestWithin_2 : decode cX4_bestWithin 2 = .ok (.lconst 0, 1) := by decide +kernel
theorem dX4_bestWithin_3 : decode cX4_bestWithin 3 = .ok (.lstore_n 3, 1) := by decide +kernel
theorem dX4_bestWithin_4 : decode cX4_bestWithin 4 = .ok (.iconst 0, 1) := by decide +kernel
theorem dX4_bestWithin_5 : decode cX4_bestWithin 5 = .ok (.istore 5, 2) := by decide +kernel
theorem dX4_bestWithin_7 : decode cX4_bestWithin 7 = .ok (.iconst 0, 1) := by decide +kernel
theorem dX4_bestWithin_8 : decode cX4_bestWithin 8 = .ok (.istore 6, 2) := by decide +kernel
theorem dX4_bestWithin_10 : decode cX4_bestWithin 10 = .ok (.iload 6, 2) := by decide +kernel
theorem dX4_bestWithin_12 : decode cX4_bestWithin 12 = .ok (.iconst 1, 1) := by decide +kernel
theorem dX4_bestWithin_13 : decode cX4_bestWithin 13 = .ok (.aload_n 0, 1) := by decide +kernel
theorem dX4_bestWithin_14 : decode cX4_bestWithin 14 = .ok (.getfield 28, 3) := by decide +kernel
theorem dX4_bestWithin_17 : decode cX4_bestWithin 17 = .ok (.ishl, 1) := by decide +kernel
theorem dX4_bestWithin_18 : decode cX4_bestWithin 18 = .ok (.if_icmp .ge 74, 3) := by decide +kernel
theorem dX4_bestWithin_21 : decode cX4_bestWithin 21 = .ok (.aload_n 0, 1) := by decide +kernel
theorem dX4_bestWithin_22 : decode cX4_bestWithin 22 = .ok (.iload 6, 2) := by decide +kernel
theorem dX4_bestWithin_24 : decode cX4_bestWithin 24 = .ok (.invokevirtual 54, 3) := by decide +kernel
theorem dX4_bestWithin_27 : decode cX4_bestWithin 27 = .ok (.istore 7, 2) := by decide +kernel
theorem dX4_bestWithin_29 : decode cX4_bestWithin 29 = .ok (.iload 7, 2) := by decide +kernel
theorem dX4_bestWithin_31 : decode cX4_bestWithin 31 = .ok (.iload_n 1, 1) := by decide +kernel
theorem dX4_bestWithin_32 : decode cX4_bestWithin 32 = .ok (.if_icmp .gt 54, 3) := by decide +kernel
theorem dX4_bestWithin_35 : decode cX4_bestWithin 35 = .ok (.aload_n 0, 1) := by decide +kernel
theorem dX4_bestWithin_36 : decode cX4_bestWithin 36 = .ok (.iload 6, 2) := by decide +kernel
theorem dX4_bestWithin_38 : decode cX4_bestWithin 38 = .ok (.invokevirtual 57, 3) := by decide +kernel
theorem dX4_bestWithin_41 : decode cX4_bestWithin 41 = .ok (.bipush 6, 2) := by decide +kernel
theorem dX4_bestWithin_43 : decode cX4_bestWithin 43 = .ok (.iload 6, 2) := by decide +kernel
theorem dX4_bestWithin_45 : decode cX4_bestWithin 45 = .ok (.invokestatic 42, 3) := by decide +kernel
theorem dX4_bestWithin_48 : decode cX4_bestWithin 48 = .ok (.isub, 1) := by decide +kernel
theorem dX4_bestWithin_49 : decode cX4_bestWithin 49 = .ok (.invokestatic 48, 3) := by decide +kernel
theorem dX4_bestWithin_52 : decode cX4_bestWithin 52 = .ok (.lmul, 1) := by decide +kernel
theorem dX4_bestWithin_53 : decode cX4_bestWithin 53 = .ok (.lstore 8, 2) := by decide +kernel
theorem dX4_bestWithin_55 : decode cX4_bestWithin 55 = .ok (.lload 8, 2) := by decide +kernel
theorem dX4_bestWithin_57 : decode cX4_bestWithin 57 = .ok (.lload_n 3, 1) := by decide +kernel
theorem dX4_bestWithin_58 : decode cX4_bestWithin 58 = .ok (.lcmp, 1) := by decide +kernel
theorem dX4_bestWithin_59 : decode cX4_bestWithin 59 = .ok (.ifCond .gt 17, 3) := by decide +kernel
theorem dX4_bestWithin_62 : decode cX4_bestWithin 62 = .ok (.lload 8, 2) := by decide +kernel
theorem dX4_bestWithin_64 : decode cX4_bestWithin 64 = .ok (.lload_n 3, 1) := by decide +kernel
theorem dX4_bestWithin_65 : decode cX4_bestWithin 65 = .ok (.lcmp, 1) := by decide +kernel
theorem dX4_bestWithin_66 : decode cX4_bestWithin 66 = .ok (.ifCond .ne 20, 3) := by decide +kernel
theorem dX4_bestWithin_69 : decode cX4_bestWithin 69 = .ok (.iload 7, 2) := by decide +kernel
theorem dX4_bestWithin_71 : decode cX4_bestWithin 71 = .ok (.iload 5, 2) := by decide +kernel
theorem dX4_bestWithin_73 : decode cX4_bestWithin 73 = .ok (.if_icmp .ge 13, 3) := by decide +kernel
theorem dX4_bestWithin_76 : decode cX4_bestWithin 76 = .ok (.iload 6, 2) := by decide +kernel
theorem dX4_bestWithin_78 : decode cX4_bestWithin 78 = .ok (.istore_n 2, 1) := by decide +kernel
theorem dX4_bestWithin_79 : decode cX4_bestWithin 79 = .ok (.lload 8, 2) := by decide +kernel
theorem dX4_bestWithin_81 : decode cX4_bestWithin 81 = .ok (.lstore_n 3, 1) := by decide +kernel
theorem dX4_bestWithin_82 : decode cX4_bestWithin 82 = .ok (.iload 7, 2) := by decide +kernel
theorem dX4_bestWithin_84 : decode cX4_bestWithin 84 = .ok (.istore 5, 2) := by decide +kernel
theorem dX4_bestWithin_86 : decode cX4_bestWithin 86 = .ok (.iinc 6 1, 3) := by decide +kernel
theorem dX4_bestWithin_89 : decode cX4_bestWithin 89 = .ok (.goto (-79), 3) := by decide +kernel
theorem dX4_bestWithin_92 : decode cX4_bestWithin 92 = .ok (.iload_n 2, 1) := by decide +kernel
theorem dX4_bestWithin_93 : decode cX4_bestWithin 93 = .ok (.ireturn, 1) := by decide +kernel
theorem dX4_digestInto_0 : decode cX4_digestInto 0 = .ok (.lload_n 1, 1) := by decide +kernel
theorem dX4_digestInto_1 : decode cX4_digestInto 1 = .ok (.lstore_n 3, 1) := by decide +kernel
theorem dX4_digestInto_2 : decode cX4_digestInto 2 = .ok (.iconst 0, 1) := by decide +kernel
theorem dX4_digestInto_3 : decode cX4_digestInto 3 = .ok (.istore 5, 2) := by decide +kernel
theorem dX4_digestInto_5 : decode cX4_digestInto 5 = .ok (.iload 5, 2) := by decide +kernel
theorem dX4_digestInto_7 : decode cX4_digestInto 7 = .ok (.aload_n 0, 1) := by decide +kernel
theorem dX4_digestInto_8 : decode cX4_digestInto 8 = .ok (.getfield 28, 3) := by decide +kernel
theorem dX4_digestInto_11 : decode cX4_digestInto 11 = .ok (.if_icmp .ge 37, 3) := by decide +kernel
theorem dX4_digestInto_14 : decode cX4_digestInto 14 = .ok (.ldc2_w 60, 3) := by decide +kernel
theorem dX4_digestInto_17 : decode cX4_digestInto 17 = .ok (.lload_n 3, 1) := by decide +kernel
theorem dX4_digestInto_18 : decode cX4_digestInto 18 = .ok (.lmul, 1) := by decide +kernel
theorem dX4_digestInto_19 : decode cX4_digestInto 19 = .ok (.aload_n 0, 1) := by decide +kernel
theorem dX4_digestInto_20 : decode cX4_digestInto 20 = .ok (.getfield 9, 3) := by decide +kernel
theorem dX4_digestInto_23 : decode cX4_digestInto 23 = .ok (.iload 5, 2) := by decide +kernel
theorem dX4_digestInto_25 : decode cX4_digestInto 25 = .ok (.iaload, 1) := by decide +kernel
theorem dX4_digestInto_26 : decode cX4_digestInto 26 = .ok (.i2l, 1) := by decide +kernel
theorem dX4_digestInto_27 : decode cX4_digestInto 27 = .ok (.ladd, 1) := by decide +kernel
theorem dX4_digestInto_28 : decode cX4_digestInto 28 = .ok (.lstore_n 3, 1) := by decide +kernel
theorem dX4_digestInto_29 : decode cX4_digestInto 29 = .ok (.lload_n 3, 1) := by decide +kernel
theorem dX4_digestInto_30 : decode cX4_digestInto 30 = .ok (.aload_n 0, 1) := by decide +kernel
theorem dX4_digestInto_31 : decode cX4_digestInto 31 = .ok (.getfield 17, 3) := by decide +kernel
theorem dX4_digestInto_34 : decode cX4_digestInto 34 = .ok (.iload 5, 2) := by decide +kernel
theorem dX4_digestInto_36 : decode cX4_digestInto 36 = .ok (.aaload, 1) := by decide +kernel
theorem dX4_digestInto_37 : decode cX4_digestInto 37 = .ok (.iconst 4, 1) := by decide +kernel
theorem dX4_digestInto_38 : decode cX4_digestInto 38 = .ok (.invokestatic 62, 3) := by decide +kernel
theorem dX4_digestInto_41 : decode cX4_digestInto 41 = .ok (.lstore_n 3, 1) := by decide +kernel
theorem dX4_digestInto_42 : decode cX4_digestInto 42 = .ok (.iinc 5 1, 3) := by decide +kernel
theorem dX4_digestInto_45 : decode cX4_digestInto 45 = .ok (.goto (-40), 3) := by decide +kernel
theorem dX4_digestInto_48 : decode cX4_digestInto 48 = .ok (.lload_n 3, 1) := by decide +kernel
theorem dX4_digestInto_49 : decode cX4_digestInto 49 = .ok (.lreturn, 1) := by decide +kernel
theorem dX5_init_0 : decode cX5_init 0 = .ok (.aload_n 0, 1) := by decide +kernel
theorem dX5_init_1 : decode cX5_init 1 = .ok (.invokespecial 3, 3) := by decide +kernel
theorem dX5_init_4 : decode cX5_init 4 = .ok (.aload_n 0, 1) := by decide +kernel
theorem dX5_init_5 : decode cX5_init 5 = .ok (.new 9, 3) := by decide +kernel
theorem dX5_init_8 : decode cX5_init 8 = .ok (.dup, 1) := by decide +kernel
theorem dX5_init_9 : decode cX5_init 9 = .ok (.invokespecial 11, 3) := by decide +kernel
theorem dX5_init_12 : decode cX5_init 12 = .ok (.putfield 12, 3) := by decide +kernel
theorem dX5_init_15 : decode cX5_init 15 = .ok (.aload_n 0, 1) := by decide +kernel
theorem dX5_init_16 : decode cX5_init 16 = .ok (.new 9, 3) := by decide +kernel
theorem dX5_init_19 : decode cX5_init 19 = .ok (.dup, 1) := by decide +kernel
theorem dX5_init_20 : decode cX5_init 20 = .ok (.invokespecial 11, 3) := by decide +kernel
theorem dX5_init_23 : decode cX5_init 23 = .ok (.putfield 18, 3) := by decide +kernel
theorem dX5_init_26 : decode cX5_init 26 = .ok (.aload_n 0, 1) := by decide +kernel
theorem dX5_init_27 : decode cX5_init 27 = .ok (.getfield 18, 3) := by decide +kernel
theorem dX5_init_30 : decode cX5_init 30 = .ok (.lconst 1, 1) := by decide +kernel
theorem dX5_init_31 : decode cX5_init 31 = .ok (.invokevirtual 21, 3) := by decide +kernel
theorem dX5_init_34 : decode cX5_init 34 = .ok (.return_, 1) := by decide +kernel
theorem dX5_put_0 : decode cX5_put 0 = .ok (.lload_n 1, 1) := by decide +kernel
theorem dX5_put_1 : decode cX5_put 1 = .ok (.lload_n 3, 1) := by decide +kernel
theorem dX5_put_2 : decode cX5_put 2 = .ok (.invokestatic 25, 3) := by decide +kernel
theorem dX5_put_5 : decode cX5_put 5 = .ok (.lstore 5, 2) := by decide +kernel
theorem dX5_put_7 : decode cX5_put 7 = .ok (.lload 5, 2) := by decide +kernel
theorem dX5_put_9 : decode cX5_put 9 = .ok (.lconst 0, 1) := by decide +kernel
theorem dX5_put_10 : decode cX5_put 10 = .ok (.lcmp, 1) := by decide +kernel
theorem dX5_put_11 : decode cX5_put 11 = .ok (.ifCond .le 25, 3) := by decide +kernel
theorem dX5_put_14 : decode cX5_put 14 = .ok (.aload_n 0, 1) := by decide +kernel
theorem dX5_put_15 : decode cX5_put 15 = .ok (.getfield 12, 3) := by decide +kernel
theorem dX5_put_18 : decode cX5_put 18 = .ok (.lload_n 1, 1) := by decide +kernel
theorem dX5_put_19 : decode cX5_put 19 = .ok (.lload 5, 2) := by decide +kernel
theorem dX5_put_21 : decode cX5_put 21 = .ok (.ldiv, 1) := by decide +kernel
theorem dX5_put_22 : decode cX5_put 22 = .ok (.invokevirtual 21, 3) := by decide +kernel
theorem dX5_put_25 : decode cX5_put 25 = .ok (.aload_n 0, 1) := by decide +kernel
theorem dX5_put_26 : decode cX5_put 26 = .ok (.getfield 18, 3) := by decide +kernel
theorem dX5_put_29 : decode cX5_put 29 = .ok (.lload_n 3, 1) := by decide +kernel
theorem dX5_put_30 : decode cX5_put 30 = .ok (.lload 5, 2) := by decide +kernel
theorem dX5_put_32 : decode cX5_put 32 = .ok (.ldiv, 1) := by decide +kernel
theorem dX5_put_33 : decode cX5_put 33 = .ok (.invokevirtual 21, 3) := by decide +kernel
theorem dX5_put_36 : decode cX5_put 36 = .ok (.return_, 1) := by decide +kernel
theorem dX5_commonOf_0 : decode cX5_commonOf 0 = .ok (.lload_n 2, 1) := by decide +kernel
theorem dX5_commonOf_1 : decode cX5_commonOf 1 = .ok (.lstore 4, 2) := by decide +kernel
theorem dX5_commonOf_3 : decode cX5_commonOf 3 = .ok (.lload_n 0, 1) := by decide +kernel
theorem dX5_commonOf_4 : decode cX5_commonOf 4 = .ok (.lstore 6, 2) := by decide +kernel
theorem dX5_commonOf_6 : decode cX5_commonOf 6 = .ok (.iconst 0, 1) := by decide +kernel
theorem dX5_commonOf_7 : decode cX5_commonOf 7 = .ok (.istore 8, 2) := by decide +kernel
theorem dX5_commonOf_9 : decode cX5_commonOf 9 = .ok (.iload 8, 2) := by decide +kernel
theorem dX5_commonOf_11 : decode cX5_commonOf 11 = .ok (.sipush 200, 3) := by decide +kernel
theorem dX5_commonOf_14 : decode cX5_commonOf 14 = .ok (.if_icmp .ge 31, 3) := by decide +kernel
theorem dX5_commonOf_17 : decode cX5_commonOf 17 = .ok (.lload 6, 2) := by decide +kernel
theorem dX5_commonOf_19 : decode cX5_commonOf 19 = .ok (.lconst 0, 1) := by decide +kernel
theorem dX5_commonOf_20 : decode cX5_commonOf 20 = .ok (.lcmp, 1) := by decide +kernel
theorem dX5_commonOf_21 : decode cX5_commonOf 21 = .ok (.ifCond .eq 24, 3) := by decide +kernel
theorem dX5_commonOf_24 : decode cX5_commonOf 24 = .ok (.lload 4, 2) := by decide +kernel
theorem dX5_commonOf_26 : decode cX5_commonOf 26 = .ok (.lload 6, 2) := by decide +kernel
theorem dX5_commonOf_28 : decode cX5_commonOf 28 = .ok (.lrem, 1) := by decide +kernel
theorem dX5_commonOf_29 : decode cX5_commonOf 29 = .ok (.lstore 9, 2) := by decide +kernel
theorem dX5_commonOf_31 : decode cX5_commonOf 31 = .ok (.lload 6, 2) := by decide +kernel
theorem dX5_commonOf_33 : decode cX5_commonOf 33 = .ok (.lstore 4, 2) := by decide +kernel
theorem dX5_commonOf_35 : decode cX5_commonOf 35 = .ok (.lload 9, 2) := by decide +kernel
theorem dX5_commonOf_37 : decode cX5_commonOf 37 = .ok (.lstore 6, 2) := by decide +kernel
theorem dX5_commonOf_39 : decode cX5_commonOf 39 = .ok (.iinc 8 1, 3) := by decide +kernel
theorem dX5_commonOf_42 : decode cX5_commonOf 42 = .ok (.goto (-33), 3) := by decide +kernel
theorem dX5_commonOf_45 : decode cX5_commonOf 45 = .ok (.lload 4, 2) := by decide +kernel
theorem dX5_commonOf_47 : decode cX5_commonOf 47 = .ok (.lreturn, 1) := by decide +kernel
theorem dX5_putBig_0 : decode cX5_putBig 0 = .ok (.aload_n 0, 1) := by decide +kernel
theorem dX5_putBig_1 : decode cX5_putBig 1 = .ok (.getfield 12, 3) := by decide +kernel
theorem dX5_putBig_4 : decode cX5_putBig 4 = .ok (.aload_n 1, 1) := by decide +kernel
theorem dX5_putBig_5 : decode cX5_putBig 5 = .ok (.invokevirtual 29, 3) := by decide +kernel
theorem dX5_putBig_8 : decode cX5_putBig 8 = .ok (.aload_n 0, 1) := by decide +kernel
theorem dX5_putBig_9 : decode cX5_putBig 9 = .ok (.getfield 18, 3) := by decide +kernel
theorem dX5_putBig_12 : decode cX5_putBig 12 = .ok (.aload_n 2, 1) := by decide +kernel
theorem dX5_putBig_13 : decode cX5_putBig 13 = .ok (.invokevirtual 29, 3) := by decide +kernel
theorem dX5_putBig_16 : decode cX5_putBig 16 = .ok (.iconst 2, 1) := by decide +kernel
theorem dX5_putBig_17 : decode cX5_putBig 17 = .ok (.istore_n 3, 1) := by decide +kernel
theorem dX5_putBig_18 : decode cX5_putBig 18 = .ok (.iload_n 3, 1) := by decide +kernel
theorem dX5_putBig_19 : decode cX5_putBig 19 = .ok (.sipush 248, 3) := by decide +kernel
theorem dX5_putBig_22 : decode cX5_putBig 22 = .ok (.if_icmp .gt 68, 3) := by decide +kernel
theorem dX5_putBig_25 : decode cX5_putBig 25 = .ok (.sipush 480, 3) := by decide +kernel
theorem dX5_putBig_28 : decode cX5_putBig 28 = .ok (.istore 4, 2) := by decide +kernel
theorem dX5_putBig_30 : decode cX5_putBig 30 = .ok (.iconst 0, 1) := by decide +kernel
theorem dX5_putBig_31 : decode cX5_putBig 31 = .ok (.istore 5, 2) := by decide +kernel
theorem dX5_putBig_33 : decode cX5_putBig 33 = .ok (.iload 5, 2) := by decide +kernel
theorem dX5_putBig_35 : decode cX5_putBig 35 = .ok (.iload 4, 2) := by decide +kernel
theorem dX5_putBig_37 : decode cX5_putBig 37 = .ok (.if_icmp .ge 47, 3) := by decide +kernel
theorem dX5_putBig_40 : decode cX5_putBig 40 = .ok (.aload_n 0, 1) := by decide +kernel
theorem dX5_putBig_41 : decode cX5_putBig 41 = .ok (.getfield 12, 3) := by decide +kernel
theorem dX5_putBig_44 : decode cX5_putBig 44 = .ok (.iload_n 3, 1) := by decide +kernel
theorem dX5_putBig_45 : decode cX5_putBig 45 = .ok (.invokevirtual 33, 3) := by decide +kernel
theorem dX5_putBig_48 : decode cX5_putBig 48 = .ok (.ifCond .ne 36, 3) := by decide +kernel
theorem dX5_putBig_51 : decode cX5_putBig 51 = .ok (.aload_n 0, 1) := by decide +kernel
theorem dX5_putBig_52 : decode cX5_putBig 52 = .ok (.getfield 18, 3) := by decide +kernel
theorem dX5_putBig_55 : decode cX5_putBig 55 = .ok (.iload_n 3, 1) := by decide +kernel
theorem dX5_putBig_56 : decode cX5_putBig 56 = .ok (.invokevirtual 33, 3) := by decide +kernel
theorem dX5_putBig_59 : decode cX5_putBig 59 = .ok (.ifCond .ne 25, 3) := by decide +kernel
theorem dX5_putBig_62 : decode cX5_putBig 62 = .ok (.aload_n 0, 1) := by decide +kernel
theorem dX5_putBig_63 : decode cX5_putBig 63 = .ok (.getfield 12, 3) := by decide +kernel
theorem dX5_putBig_66 : decode cX5_putBig 66 = .ok (.iload_n 3, 1) := by decide +kernel
theorem dX5_putBig_67 : decode cX5_putBig 67 = .ok (.invokevirtual 37, 3) := by decide +kernel
theorem dX5_putBig_70 : decode cX5_putBig 70 = .ok (.aload_n 0, 1) := by decide +kernel
theorem dX5_putBig_71 : decode cX5_putBig 71 = .ok (.getfield 18, 3) := by decide +kernel
theorem dX5_putBig_74 : decode cX5_putBig 74 = .ok (.iload_n 3, 1) := by decide +kernel
theorem dX5_putBig_75 : decode cX5_putBig 75 = .ok (.invokevirtual 37, 3) := by decide +kernel
theorem dX5_putBig_78 : decode cX5_putBig 78 = .ok (.iinc 5 1, 3) := by decide +kernel
theorem dX5_putBig_81 : decode cX5_putBig 81 = .ok (.goto (-48), 3) := by decide +kernel
theorem dX5_putBig_84 : decode cX5_putBig 84 = .ok (.iinc 3 1, 3) := by decide +kernel
theorem dX5_putBig_87 : decode cX5_putBig 87 = .ok (.goto (-69), 3) := by decide +kernel
theorem dX5_putBig_90 : decode cX5_putBig 90 = .ok (.return_, 1) := by decide +kernel
theorem dX6_init_0 : decode cX6_init 0 = .ok (.aload_n 0, 1) := by decide +kernel
theorem dX6_init_1 : decode cX6_init 1 = .ok (.invokespecial 3, 3) := by decide +kernel
theorem dX6_init_4 : decode cX6_init 4 = .ok (.aload_n 0, 1) := by decide +kernel
theorem dX6_init_5 : decode cX6_init 5 = .ok (.bipush 40, 2) := by decide +kernel
theorem dX6_init_7 : decode cX6_init 7 = .ok (.newarray .int, 2) := by decide +kernel
theorem dX6_init_9 : decode cX6_init 9 = .ok (.putfield 9, 3) := by decide +kernel
theorem dX6_init_12 : decode cX6_init 12 = .ok (.aload_n 0, 1) := by decide +kernel
theorem dX6_init_13 : decode cX6_init 13 = .ok (.bipush 40, 2) := by decide +kernel
theorem dX6_init_15 : decode cX6_init 15 = .ok (.newarray .int, 2) := by decide +kernel
theorem dX6_init_17 : decode cX6_init 17 = .ok (.putfield 15, 3) := by decide +kernel
theorem dX6_init_20 : decode cX6_init 20 = .ok (.aload_n 0, 1) := by decide +kernel
theorem dX6_init_21 : decode cX6_init 21 = .ok (.bipush 40, 2) := by decide +kernel
theorem dX6_init_23 : decode cX6_init 23 = .ok (.newarray .int, 2) := by decide +kernel
theorem dX6_init_25 : decode cX6_init 25 = .ok (.putfield 18, 3) := by decide +kernel
theorem dX6_init_28 : decode cX6_init 28 = .ok (.aload_n 0, 1) := by decide +kernel
theorem dX6_init_29 : decode cX6_init 29 = .ok (.bipush 8, 2) := by decide +kernel
theorem dX6_init_31 : decode cX6_init 31 = .ok (.bipush 8, 2) := by decide +kernel
theorem dX6_init_33 : decode cX6_init 33 = .ok (.multianewarray 21 2, 4) := by decide +kernel
theorem dX6_init_37 : decode cX6_init 37 = .ok (.putfield 23, 3) := by decide +kernel
theorem dX6_init_40 : decode cX6_init 40 = .ok (.aload_n 0, 1) := by decide +kernel
theorem dX6_init_41 : decode cX6_init 41 = .ok (.bipush 8, 2) := by decide +kernel
theorem dX6_init_43 : decode cX6_init 43 = .ok (.sipush 256, 3) := by decide +kernel
theorem dX6_init_46 : decode cX6_init 46 = .ok (.multianewarray 21 2, 4) := by decide +kernel
theorem dX6_init_50 : decode cX6_init 50 = .ok (.putfield 26, 3) := by decide +kernel
theorem dX6_init_53 : decode cX6_init 53 = .ok (.aload_n 0, 1) := by decide +kernel
theorem dX6_init_54 : decode cX6_init 54 = .ok (.sipush 256, 3) := by decide +kernel
theorem dX6_init_57 : decode cX6_init 57 = .ok (.newarray .int, 2) := by decide +kernel
theorem dX6_init_59 : decode cX6_init 59 = .ok (.putfield 29, 3) := by decide +kernel
theorem dX6_init_62 : decode cX6_init 62 = .ok (.return_, 1) := by decide +kernel
theorem dX6_add_0 : decode cX6_add 0 = .ok (.aload_n 0, 1) := by decide +kernel
theorem dX6_add_1 : decode cX6_add 1 = .ok (.getfield 32, 3) := by decide +kernel
theorem dX6_add_4 : decode cX6_add 4 = .ok (.bipush 40, 2) := by decide +kernel
theorem dX6_add_6 : decode cX6_add 6 = .ok (.if_icmp .lt 6, 3) := by decide +kernel
theorem dX6_add_9 : decode cX6_add 9 = .ok (.bipush (-4), 2) := by decide +kernel
theorem dX6_add_11 : decode cX6_add 11 = .ok (.ireturn, 1) := by decide +kernel
theorem dX6_add_12 : decode cX6_add 12 = .ok (.aload_n 0, 1) := by decide +kernel
theorem dX6_add_13 : decode cX6_add 13 = .ok (.getfield 9, 3) := by decide +kernel
theorem dX6_add_16 : decode cX6_add 16 = .ok (.aload_n 0, 1) := by decide +kernel
theorem dX6_add_17 : decode cX6_add 17 = .ok (.getfield 32, 3) := by decide +kernel
theorem dX6_add_20 : decode cX6_add 20 = .ok (.iload_n 1, 1) := by decide +kernel
theorem dX6_add_21 : decode cX6_add 21 = .ok (.iastore, 1) := by decide +kernel
theorem dX6_add_22 : decode cX6_add 22 = .ok (.aload_n 0, 1) := by decide +kernel
theorem dX6_add_23 : decode cX6_add 23 = .ok (.getfield 15, 3) := by decide +kernel
theorem dX6_add_26 : decode cX6_add 26 = .ok (.aload_n 0, 1) := by decide +kernel
theorem dX6_add_27 : decode cX6_add 27 = .ok (.getfield 32, 3) := by decide +kernel
theorem dX6_add_30 : decode cX6_add 30 = .ok (.iload_n 2, 1) := by decide +kernel
theorem dX6_add_31 : decode cX6_add 31 = .ok (.iastore, 1) := by decide +kernel
theorem dX6_add_32 : decode cX6_add 32 = .ok (.aload_n 0, 1) := by decide +kernel
theorem dX6_add_33 : decode cX6_add 33 = .ok (.getfield 18, 3) := by decide +kernel
theorem dX6_add_36 : decode cX6_add 36 = .ok (.aload_n 0, 1) := by decide +kernel
theorem dX6_add_37 : decode cX6_add 37 = .ok (.getfield 32, 3) := by decide +kernel
theorem dX6_add_40 : decode cX6_add 40 = .ok (.iload_n 3, 1) := by decide +kernel
theorem dX6_add_41 : decode cX6_add 41 = .ok (.iastore, 1) := by decide +kernel
theorem dX6_add_42 : decode cX6_add 42 = .ok (.aload_n 0, 1) := by decide +kernel
theorem dX6_add_43 : decode cX6_add 43 = .ok (.getfield 23, 3) := by decide +kernel
theorem dX6_add_46 : decode cX6_add 46 = .ok (.iload_n 2, 1) := by decide +kernel
theorem dX6_add_47 : decode cX6_add 47 = .ok (.aaload, 1) := by decide +kernel
theorem dX6_add_48 : decode cX6_add 48 = .ok (.iload_n 3, 1) := by decide +kernel
theorem dX6_add_49 : decode cX6_add 49 = .ok (.dup2, 1) := by decide +kernel
theorem dX6_add_50 : decode cX6_add 50 = .ok (.iaload, 1) := by decide +kernel
theorem dX6_add_51 : decode cX6_add 51 = .ok (.iconst 1, 1) := by decide +kernel
theorem dX6_add_52 : decode cX6_add 52 = .ok (.iadd, 1) := by decide +kernel
theorem dX6_add_53 : decode cX6_add 53 = .ok (.iastore, 1) := by decide +kernel
theorem dX6_add_54 : decode cX6_add 54 = .ok (.aload_n 0, 1) := by decide +kernel
theorem dX6_add_55 : decode cX6_add 55 = .ok (.dup, 1) := by decide +kernel
theorem dX6_add_56 : decode cX6_add 56 = .ok (.getfield 32, 3) := by decide +kernel
theorem dX6_add_59 : decode cX6_add 59 = .ok (.iconst 1, 1) := by decide +kernel
theorem dX6_add_60 : decode cX6_add 60 = .ok (.iadd, 1) := by decide +kernel
theorem dX6_add_61 : decode cX6_add 61 = .ok (.putfield 32, 3) := by decide +kernel
theorem dX6_add_64 : decode cX6_add 64 = .ok (.aload_n 0, 1) := by decide +kernel
theorem dX6_add_65 : decode cX6_add 65 = .ok (.getfield 32, 3) := by decide +kernel
theorem dX6_add_68 : decode cX6_add 68 = .ok (.ireturn, 1) := by decide +kernel
theorem dX6_fewestAgainst_0 : decode cX6_fewestAgainst 0 = .ok (.aload_n 0, 1) := by decide +kernel
theorem dX6_fewestAgainst_1 : decode cX6_fewestAgainst 1 = .ok (.iload_n 1, 1) := by decide +kernel
theorem dX6_fewestAgainst_2 : decode cX6_fewestAgainst 2 = .ok (.invokevirtual 36, 3) := by decide +kernel
theorem dX6_fewestAgainst_5 : decode cX6_fewestAgainst 5 = .ok (.aload_n 0, 1) := by decide +kernel
theorem dX6_fewestAgainst_6 : decode cX6_fewestAgainst 6 = .ok (.getfield 29, 3) := by decide +kernel
theorem dX6_fewestAgainst_9 : decode cX6_fewestAgainst 9 = .ok (.iconst 0, 1) := by decide +kernel
theorem dX6_fewestAgainst_10 : decode cX6_fewestAgainst 10 = .ok (.iconst 0, 1) := by decide +kernel
theorem dX6_fewestAgainst_11 : decode cX6_fewestAgainst 11 = .ok (.iastore, 1) := by decide +kernel
theorem dX6_fewestAgainst_12 : decode cX6_fewestAgainst 12 = .ok (.iconst 1, 1) := by decide +kernel
theorem dX6_fewestAgainst_13 : decode cX6_fewestAgainst 13 = .ok (.istore 4, 2) := by decide +kernel
theorem dX6_fewestAgainst_15 : decode cX6_fewestAgainst 15 = .ok (.iload 4, 2) := by decide +kernel
theorem dX6_fewestAgainst_17 : decode cX6_fewestAgainst 17 = .ok (.iconst 1, 1) := by decide +kernel
theorem dX6_fewestAgainst_18 : decode cX6_fewestAgainst 18 = .ok (.iload_n 1, 1) := by decide +kernel
theorem dX6_fewestAgainst_19 : decode cX6_fewestAgainst 19 = .ok (.ishl, 1) := by decide +kernel
theorem dX6_fewestAgainst_20 : decode cX6_fewestAgainst 20 = .ok (.if_icmp .ge 97, 3) := by decide +kernel
theorem dX6_fewestAgainst_23 : decode cX6_fewestAgainst 23 = .ok (.aload_n 0, 1) := by decide +kernel
theorem dX6_fewestAgainst_24 : decode cX6_fewestAgainst 24 = .ok (.getfield 29, 3) := by decide +kernel
theorem dX6_fewestAgainst_27 : decode cX6_fewestAgainst 27 = .ok (.iload 4, 2) := by decide +kernel
theorem dX6_fewestAgainst_29 : decode cX6_fewestAgainst 29 = .ok (.bipush 41, 2) := by decide +kernel
theorem dX6_fewestAgainst_31 : decode cX6_fewestAgainst 31 = .ok (.iastore, 1) := by decide +kernel
theorem dX6_fewestAgainst_32 : decode cX6_fewestAgainst 32 = .ok (.iconst 0, 1) := by decide +kernel
theorem dX6_fewestAgainst_33 : decode cX6_fewestAgainst 33 = .ok (.istore 5, 2) := by decide +kernel
theorem dX6_fewestAgainst_35 : decode cX6_fewestAgainst 35 = .ok (.iload 5, 2) := by decide +kernel
theorem dX6_fewestAgainst_37 : decode cX6_fewestAgainst 37 = .ok (.iload_n 1, 1) := by decide +kernel
theorem dX6_fewestAgainst_38 : decode cX6_fewestAgainst 38 = .ok (.if_icmp .ge 73, 3) := by decide +kernel
theorem dX6_fewestAgainst_41 : decode cX6_fewestAgainst 41 = .ok (.iload 5, 2) := by decide +kernel
theorem dX6_fewestAgainst_43 : decode cX6_fewestAgainst 43 = .ok (.iload_n 2, 1) := by decide +kernel
theorem dX6_fewestAgainst_44 : decode cX6_fewestAgainst 44 = .ok (.if_icmp .ne 17, 3) := by decide +kernel
theorem dX6_fewestAgainst_47 : decode cX6_fewestAgainst 47 = .ok (.iload 4, 2) := by decide +kernel
theorem dX6_fewestAgainst_49 : decode cX6_fewestAgainst 49 = .ok (.iload_n 3, 1) := by decide +kernel
theorem dX6_fewestAgainst_50 : decode cX6_fewestAgainst 50 = .ok (.ishr, 1) := by decide +kernel
theorem dX6_fewestAgainst_51 : decode cX6_fewestAgainst 51 = .ok (.iconst 1, 1) := by decide +kernel
theorem dX6_fewestAgainst_52 : decode cX6_fewestAgainst 52 = .ok (.iand, 1) := by decide +kernel
theorem dX6_fewestAgainst_53 : decode cX6_fewestAgainst 53 = .ok (.iconst 1, 1) := by decide +kernel
theorem dX6_fewestAgainst_54 : decode cX6_fewestAgainst 54 = .ok (.if_icmp .ne 7, 3) := by decide +kernel
theorem dX6_fewestAgainst_57 : decode cX6_fewestAgainst 57 = .ok (.iconst 1, 1) := by decide +kernel
theorem dX6_fewestAgainst_58 : decode cX6_fewestAgainst 58 = .ok (.goto 4, 3) := by decide +kernel
theorem dX6_fewestAgainst_61 : decode cX6_fewestAgainst 61 = .ok (.iconst 0, 1) := by decide +kernel
theorem dX6_fewestAgainst_62 : decode cX6_fewestAgainst 62 = .ok (.istore 6, 2) := by decide +kernel
theorem dX6_fewestAgainst_64 : decode cX6_fewestAgainst 64 = .ok (.iload 4, 2) := by decide +kernel
theorem dX6_fewestAgainst_66 : decode cX6_fewestAgainst 66 = .ok (.iload 5, 2) := by decide +kernel
theorem dX6_fewestAgainst_68 : decode cX6_fewestAgainst 68 = .ok (.ishr, 1) := by decide +kernel
theorem dX6_fewestAgainst_69 : decode cX6_fewestAgainst 69 = .ok (.iconst 1, 1) := by decide +kernel
theorem dX6_fewestAgainst_70 : decode cX6_fewestAgainst 70 = .ok (.iand, 1) := by decide +kernel
theorem dX6_fewestAgainst_71 : decode cX6_fewestAgainst 71 = .ok (.iconst 1, 1) := by decide +kernel
theorem dX6_fewestAgainst_72 : decode cX6_fewestAgainst 72 = .ok (.if_icmp .ne 33, 3) := by decide +kernel
theorem dX6_fewestAgainst_75 : decode cX6_fewestAgainst 75 = .ok (.iload 6, 2) := by decide +kernel
theorem dX6_fewestAgainst_77 : decode cX6_fewestAgainst 77 = .ok (.ifCond .ne 28, 3) := by decide +kernel
theorem dX6_fewestAgainst_80 : decode cX6_fewestAgainst 80 = .ok (.aload_n 0, 1) := by decide +kernel
theorem dX6_fewestAgainst_81 : decode cX6_fewestAgainst 81 = .ok (.getfield 29, 3) := by decide +kernel
theorem dX6_fewestAgainst_84 : decode cX6_fewestAgainst 84 = .ok (.iload 4, 2) := by decide +kernel
theorem dX6_fewestAgainst_86 : decode cX6_fewestAgainst 86 = .ok (.aload_n 0, 1) := by decide +kernel
theorem dX6_fewestAgainst_87 : decode cX6_fewestAgainst 87 = .ok (.getfield 29, 3) := by decide +kernel
theorem dX6_fewestAgainst_90 : decode cX6_fewestAgainst 90 = .ok (.iload 4, 2) := by decide +kernel
theorem dX6_fewestAgainst_92 : decode cX6_fewestAgainst 92 = .ok (.iaload, 1) := by decide +kernel
theorem dX6_fewestAgainst_93 : decode cX6_fewestAgainst 93 = .ok (.aload_n 0, 1) := by decide +kernel
theorem dX6_fewestAgainst_94 : decode cX6_fewestAgainst 94 = .ok (.iload 5, 2) := by decide +kernel
theorem dX6_fewestAgainst_96 : decode cX6_fewestAgainst 96 = .ok (.iload 4, 2) := by decide +kernel
theorem dX6_fewestAgainst_98 : decode cX6_fewestAgainst 98 = .ok (.invokevirtual 40, 3) := by decide +kernel
theorem dX6_fewestAgainst_101 : decode cX6_fewestAgainst 101 = .ok (.invokestatic 44, 3) := by decide +kernel
theorem dX6_fewestAgainst_104 : decode cX6_fewestAgainst 104 = .ok (.iastore, 1) := by decide +kernel
theorem dX6_fewestAgainst_105 : decode cX6_fewestAgainst 105 = .ok (.iinc 5 1, 3) := by decide +kernel
theorem dX6_fewestAgainst_108 : decode cX6_fewestAgainst 108 = .ok (.goto (-73), 3) := by decide +kernel
theorem dX6_fewestAgainst_111 : decode cX6_fewestAgainst 111 = .ok (.iinc 4 1, 3) := by decide +kernel
theorem dX6_fewestAgainst_114 : decode cX6_fewestAgainst 114 = .ok (.goto (-99), 3) := by decide +kernel
theorem dX6_fewestAgainst_117 : decode cX6_fewestAgainst 117 = .ok (.aload_n 0, 1) := by decide +kernel
theorem dX6_fewestAgainst_118 : decode cX6_fewestAgainst 118 = .ok (.getfield 29, 3) := by decide +kernel
theorem dX6_fewestAgainst_121 : decode cX6_fewestAgainst 121 = .ok (.iconst 1, 1) := by decide +kernel
theorem dX6_fewestAgainst_122 : decode cX6_fewestAgainst 122 = .ok (.iload_n 1, 1) := by decide +kernel
theorem dX6_fewestAgainst_123 : decode cX6_fewestAgainst 123 = .ok (.ishl, 1) := by decide +kernel
theorem dX6_fewestAgainst_124 : decode cX6_fewestAgainst 124 = .ok (.iconst 1, 1) := by decide +kernel
theorem dX6_fewestAgainst_125 : decode cX6_fewestAgainst 125 = .ok (.isub, 1) := by decide +kernel
theorem dX6_fewestAgainst_126 : decode cX6_fewestAgainst 126 = .ok (.iaload, 1) := by decide +kernel
theorem dX6_fewestAgainst_127 : decode cX6_fewestAgainst 127 = .ok (.ireturn, 1) := by decide +kernel
theorem dX6_takeAhead_0 : decode cX6_takeAhead 0 = .ok (.iconst 0, 1) := by decide +kernel
theorem dX6_takeAhead_1 : decode cX6_takeAhead 1 = .ok (.istore_n 2, 1) := by decide +kernel
theorem dX6_takeAhead_2 : decode cX6_takeAhead 2 = .ok (.iload_n 2, 1) := by decide +kernel
theorem dX6_takeAhead_3 : decode cX6_takeAhead 3 = .ok (.iload_n 1, 1) := by decide +kernel
theorem dX6_takeAhead_4 : decode cX6_takeAhead 4 = .ok (.if_icmp .ge 60, 3) := by decide +kernel
theorem dX6_takeAhead_7 : decode cX6_takeAhead 7 = .ok (.iconst 1, 1) := by decide +kernel
theorem dX6_takeAhead_8 : decode cX6_takeAhead 8 = .ok (.istore_n 3, 1) := by decide +kernel
theorem dX6_takeAhead_9 : decode cX6_takeAhead 9 = .ok (.iload_n 3, 1) := by decide +kernel
theorem dX6_takeAhead_10 : decode cX6_takeAhead 10 = .ok (.iconst 1, 1) := by decide +kernel
theorem dX6_takeAhead_11 : decode cX6_takeAhead 11 = .ok (.iload_n 1, 1) := by decide +kernel
theorem dX6_takeAhead_12 : decode cX6_takeAhead 12 = .ok (.ishl, 1) := by decide +kernel
theorem dX6_takeAhead_13 : decode cX6_takeAhead 13 = .ok (.if_icmp .ge 45, 3) := by decide +kernel
theorem dX6_takeAhead_16 : decode cX6_takeAhead 16 = .ok (.iload_n 3, 1) := by decide +kernel
theorem dX6_takeAhead_17 : decode cX6_takeAhead 17 = .ok (.invokestatic 49, 3) := by decide +kernel
theorem dX6_takeAhead_20 : decode cX6_takeAhead 20 = .ok (.istore 4, 2) := by decide +kernel
theorem dX6_takeAhead_22 : decode cX6_takeAhead 22 = .ok (.aload_n 0, 1) := by decide +kernel
theorem dX6_takeAhead_23 : decode cX6_takeAhead 23 = .ok (.getfield 26, 3) := by decide +kernel
theorem dX6_takeAhead_26 : decode cX6_takeAhead 26 = .ok (.iload_n 2, 1) := by decide +kernel
theorem dX6_takeAhead_27 : decode cX6_takeAhead 27 = .ok (.aaload, 1) := by decide +kernel
theorem dX6_takeAhead_28 : decode cX6_takeAhead 28 = .ok (.iload_n 3, 1) := by decide +kernel
theorem dX6_takeAhead_29 : decode cX6_takeAhead 29 = .ok (.aload_n 0, 1) := by decide +kernel
theorem dX6_takeAhead_30 : decode cX6_takeAhead 30 = .ok (.getfield 26, 3) := by decide +kernel
theorem dX6_takeAhead_33 : decode cX6_takeAhead 33 = .ok (.iload_n 2, 1) := by decide +kernel
theorem dX6_takeAhead_34 : decode cX6_takeAhead 34 = .ok (.aaload, 1) := by decide +kernel
theorem dX6_takeAhead_35 : decode cX6_takeAhead 35 = .ok (.iload_n 3, 1) := by decide +kernel
theorem dX6_takeAhead_36 : decode cX6_takeAhead 36 = .ok (.iload_n 3, 1) := by decide +kernel
theorem dX6_takeAhead_37 : decode cX6_takeAhead 37 = .ok (.iconst 1, 1) := by decide +kernel
theorem dX6_takeAhead_38 : decode cX6_takeAhead 38 = .ok (.isub, 1) := by decide +kernel
theorem dX6_takeAhead_39 : decode cX6_takeAhead 39 = .ok (.iand, 1) := by decide +kernel
theorem dX6_takeAhead_40 : decode cX6_takeAhead 40 = .ok (.iaload, 1) := by decide +kernel
theorem dX6_takeAhead_41 : decode cX6_takeAhead 41 = .ok (.aload_n 0, 1) := by decide +kernel
theorem dX6_takeAhead_42 : decode cX6_takeAhead 42 = .ok (.getfield 23, 3) := by decide +kernel
theorem dX6_takeAhead_45 : decode cX6_takeAhead 45 = .ok (.iload 4, 2) := by decide +kernel
theorem dX6_takeAhead_47 : decode cX6_takeAhead 47 = .ok (.aaload, 1) := by decide +kernel
theorem dX6_takeAhead_48 : decode cX6_takeAhead 48 = .ok (.iload_n 2, 1) := by decide +kernel
theorem dX6_takeAhead_49 : decode cX6_takeAhead 49 = .ok (.iaload, 1) := by decide +kernel
theorem dX6_takeAhead_50 : decode cX6_takeAhead 50 = .ok (.iadd, 1) := by decide +kernel
theorem dX6_takeAhead_51 : decode cX6_takeAhead 51 = .ok (.iastore, 1) := by decide +kernel
theorem dX6_takeAhead_52 : decode cX6_takeAhead 52 = .ok (.iinc 3 1, 3) := by decide +kernel
theorem dX6_takeAhead_55 : decode cX6_takeAhead 55 = .ok (.goto (-46), 3) := by decide +kernel
theorem dX6_takeAhead_58 : decode cX6_takeAhead 58 = .ok (.iinc 2 1, 3) := by decide +kernel
theorem dX6_takeAhead_61 : decode cX6_takeAhead 61 = .ok (.goto (-59), 3) := by decide +kernel
theorem dX6_takeAhead_64 : decode cX6_takeAhead 64 = .ok (.return_, 1) := by decide +kernel
theorem dX6_againstFirst_0 : decode cX6_againstFirst 0 = .ok (.iload_n 2, 1) := by decide +kernel
theorem dX6_againstFirst_1 : decode cX6_againstFirst 1 = .ok (.iconst 1, 1) := by decide +kernel
theorem dX6_againstFirst_2 : decode cX6_againstFirst 2 = .ok (.iload_n 1, 1) := by decide +kernel
theorem dX6_againstFirst_3 : decode cX6_againstFirst 3 = .ok (.ishl, 1) := by decide +kernel
theorem dX6_againstFirst_4 : decode cX6_againstFirst 4 = .ok (.iconst (-1), 1) := by decide +kernel
theorem dX6_againstFirst_5 : decode cX6_againstFirst 5 = .ok (.ixor, 1) := by decide +kernel
theorem dX6_againstFirst_6 : decode cX6_againstFirst 6 = .ok (.iand, 1) := by decide +kernel
theorem dX6_againstFirst_7 : decode cX6_againstFirst 7 = .ok (.istore_n 3, 1) := by decide +kernel
theorem dX6_againstFirst_8 : decode cX6_againstFirst 8 = .ok (.aload_n 0, 1) := by decide +kernel
theorem dX6_againstFirst_9 : decode cX6_againstFirst 9 = .ok (.getfield 26, 3) := by decide +kernel
theorem dX6_againstFirst_12 : decode cX6_againstFirst 12 = .ok (.iload_n 1, 1) := by decide +kernel
theorem dX6_againstFirst_13 : decode cX6_againstFirst 13 = .ok (.aaload, 1) := by decide +kernel
theorem dX6_againstFirst_14 : decode cX6_againstFirst 14 = .ok (.iload_n 3, 1) := by decide +kernel
theorem dX6_againstFirst_15 : decode cX6_againstFirst 15 = .ok (.iaload, 1) := by decide +kernel
theorem dX6_againstFirst_16 : decode cX6_againstFirst 16 = .ok (.aload_n 0, 1) := by decide +kernel
theorem dX6_againstFirst_17 : decode cX6_againstFirst 17 = .ok (.getfield 29, 3) := by decide +kernel
theorem dX6_againstFirst_20 : decode cX6_againstFirst 20 = .ok (.iload_n 3, 1) := by decide +kernel
theorem dX6_againstFirst_21 : decode cX6_againstFirst 21 = .ok (.iaload, 1) := by decide +kernel
theorem dX6_againstFirst_22 : decode cX6_againstFirst 22 = .ok (.iadd, 1) := by decide +kernel
theorem dX6_againstFirst_23 : decode cX6_againstFirst 23 = .ok (.ireturn, 1) := by decide +kernel
theorem dX6_pupilInPlace_0 : decode cX6_pupilInPlace 0 = .ok (.iconst 1, 1) := by decide +kernel
theorem dX6_pupilInPlace_1 : decode cX6_pupilInPlace 1 = .ok (.iload_n 1, 1) := by decide +kernel
theorem dX6_pupilInPlace_2 : decode cX6_pupilInPlace 2 = .ok (.ishl, 1) := by decide +kernel
theorem dX6_pupilInPlace_3 : decode cX6_pupilInPlace 3 = .ok (.iconst 1, 1) := by decide +kernel
theorem dX6_pupilInPlace_4 : decode cX6_pupilInPlace 4 = .ok (.isub, 1) := by decide +kernel
theorem dX6_pupilInPlace_5 : decode cX6_pupilInPlace 5 = .ok (.istore_n 3, 1) := by decide +kernel
theorem dX6_pupilInPlace_6 : decode cX6_pupilInPlace 6 = .ok (.iconst (-1), 1) := by decide +kernel
theorem dX6_pupilInPlace_7 : decode cX6_pupilInPlace 7 = .ok (.istore 4, 2) := by decide +kernel
theorem dX6_pupilInPlace_9 : decode cX6_pupilInPlace 9 = .ok (.iconst 0, 1) := by decide +kernel
theorem dX6_pupilInPlace_10 : decode cX6_pupilInPlace 10 = .ok (.istore 5, 2) := by decide +kernel
theorem dX6_pupilInPlace_12 : decode cX6_pupilInPlace 12 = .ok (.iload 5, 2) := by decide +kernel
theorem dX6_pupilInPlace_14 : decode cX6_pupilInPlace 14 = .ok (.iload_n 2, 1) := by decide +kernel
theorem dX6_pupilInPlace_15 : decode cX6_pupilInPlace 15 = .ok (.if_icmp .gt 26, 3) := by decide +kernel
theorem dX6_pupilInPlace_18 : decode cX6_pupilInPlace 18 = .ok (.aload_n 0, 1) := by decide +kernel
theorem dX6_pupilInPlace_19 : decode cX6_pupilInPlace 19 = .ok (.iload_n 1, 1) := by decide +kernel
theorem dX6_pupilInPlace_20 : decode cX6_pupilInPlace 20 = .ok (.iload_n 3, 1) := by decide +kernel
theorem dX6_pupilInPlace_21 : decode cX6_pupilInPlace 21 = .ok (.invokevirtual 55, 3) := by decide +kernel
theorem dX6_pupilInPlace_24 : decode cX6_pupilInPlace 24 = .ok (.istore 4, 2) := by decide +kernel
theorem dX6_pupilInPlace_26 : decode cX6_pupilInPlace 26 = .ok (.iload_n 3, 1) := by decide +kernel
theorem dX6_pupilInPlace_27 : decode cX6_pupilInPlace 27 = .ok (.iconst 1, 1) := by decide +kernel
theorem dX6_pupilInPlace_28 : decode cX6_pupilInPlace 28 = .ok (.iload 4, 2) := by decide +kernel
theorem dX6_pupilInPlace_30 : decode cX6_pupilInPlace 30 = .ok (.ishl, 1) := by decide +kernel
theorem dX6_pupilInPlace_31 : decode cX6_pupilInPlace 31 = .ok (.iconst (-1), 1) := by decide +kernel
theorem dX6_pupilInPlace_32 : decode cX6_pupilInPlace 32 = .ok (.ixor, 1) := by decide +kernel
theorem dX6_pupilInPlace_33 : decode cX6_pupilInPlace 33 = .ok (.iand, 1) := by decide +kernel
theorem dX6_pupilInPlace_34 : decode cX6_pupilInPlace 34 = .ok (.istore_n 3, 1) := by decide +kernel
theorem dX6_pupilInPlace_35 : decode cX6_pupilInPlace 35 = .ok (.iinc 5 1, 3) := by decide +kernel
theorem dX6_pupilInPlace_38 : decode cX6_pupilInPlace 38 = .ok (.goto (-26), 3) := by decide +kernel
theorem dX6_pupilInPlace_41 : decode cX6_pupilInPlace 41 = .ok (.iload 4, 2) := by decide +kernel
theorem dX6_pupilInPlace_43 : decode cX6_pupilInPlace 43 = .ok (.ireturn, 1) := by decide +kernel
theorem dX6_firstOf_0 : decode cX6_firstOf 0 = .ok (.iconst 0, 1) := by decide +kernel
theorem dX6_firstOf_1 : decode cX6_firstOf 1 = .ok (.istore_n 3, 1) := by decide +kernel
theorem dX6_firstOf_2 : decode cX6_firstOf 2 = .ok (.iload_n 3, 1) := by decide +kernel
theorem dX6_firstOf_3 : decode cX6_firstOf 3 = .ok (.iload_n 1, 1) := by decide +kernel
theorem dX6_firstOf_4 : decode cX6_firstOf 4 = .ok (.iconst 1, 1) := by decide +kernel
theorem dX6_firstOf_5 : decode cX6_firstOf 5 = .ok (.isub, 1) := by decide +kernel
theorem dX6_firstOf_6 : decode cX6_firstOf 6 = .ok (.if_icmp .ge 32, 3) := by decide +kernel
theorem dX6_firstOf_9 : decode cX6_firstOf 9 = .ok (.iload_n 2, 1) := by decide +kernel
theorem dX6_firstOf_10 : decode cX6_firstOf 10 = .ok (.iload_n 3, 1) := by decide +kernel
theorem dX6_firstOf_11 : decode cX6_firstOf 11 = .ok (.ishr, 1) := by decide +kernel
theorem dX6_firstOf_12 : decode cX6_firstOf 12 = .ok (.iconst 1, 1) := by decide +kernel
theorem dX6_firstOf_13 : decode cX6_firstOf 13 = .ok (.iand, 1) := by decide +kernel
theorem dX6_firstOf_14 : decode cX6_firstOf 14 = .ok (.ifCond .eq 18, 3) := by decide +kernel
theorem dX6_firstOf_17 : decode cX6_firstOf 17 = .ok (.aload_n 0, 1) := by decide +kernel
theorem dX6_firstOf_18 : decode cX6_firstOf 18 = .ok (.iload_n 3, 1) := by decide +kernel
theorem dX6_firstOf_19 : decode cX6_firstOf 19 = .ok (.iload_n 2, 1) := by decide +kernel
theorem dX6_firstOf_20 : decode cX6_firstOf 20 = .ok (.invokevirtual 40, 3) := by decide +kernel
theorem dX6_firstOf_23 : decode cX6_firstOf 23 = .ok (.aload_n 0, 1) := by decide +kernel
theorem dX6_firstOf_24 : decode cX6_firstOf 24 = .ok (.getfield 29, 3) := by decide +kernel
theorem dX6_firstOf_27 : decode cX6_firstOf 27 = .ok (.iload_n 2, 1) := by decide +kernel
theorem dX6_firstOf_28 : decode cX6_firstOf 28 = .ok (.iaload, 1) := by decide +kernel
theorem dX6_firstOf_29 : decode cX6_firstOf 29 = .ok (.if_icmp .le 9, 3) := by decide +kernel
theorem dX6_firstOf_32 : decode cX6_firstOf 32 = .ok (.iinc 3 1, 3) := by decide +kernel
theorem dX6_firstOf_35 : decode cX6_firstOf 35 = .ok (.goto (-33), 3) := by decide +kernel
theorem dX6_firstOf_38 : decode cX6_firstOf 38 = .ok (.iload_n 3, 1) := by decide +kernel
theorem dX6_firstOf_39 : decode cX6_firstOf 39 = .ok (.ireturn, 1) := by decide +kernel
theorem dX6_digestInto_0 : decode cX6_digestInto 0 = .ok (.lload_n 1, 1) := by decide +kernel
theorem dX6_digestInto_1 : decode cX6_digestInto 1 = .ok (.lstore_n 3, 1) := by decide +kernel
theorem dX6_digestInto_2 : decode cX6_digestInto 2 = .ok (.iconst 0, 1) := by decide +kernel
theorem dX6_digestInto_3 : decode cX6_digestInto 3 = .ok (.istore 5, 2) := by decide +kernel
theorem dX6_digestInto_5 : decode cX6_digestInto 5 = .ok (.iload 5, 2) := by decide +kernel
theorem dX6_digestInto_7 : decode cX6_digestInto 7 = .ok (.aload_n 0, 1) := by decide +kernel
theorem dX6_digestInto_8 : decode cX6_digestInto 8 = .ok (.getfield 32, 3) := by decide +kernel
theorem dX6_digestInto_11 : decode cX6_digestInto 11 = .ok (.if_icmp .ge 54, 3) := by decide +kernel
theorem dX6_digestInto_14 : decode cX6_digestInto 14 = .ok (.ldc2_w 58, 3) := by decide +kernel
theorem dX6_digestInto_17 : decode cX6_digestInto 17 = .ok (.lload_n 3, 1) := by decide +kernel
theorem dX6_digestInto_18 : decode cX6_digestInto 18 = .ok (.lmul, 1) := by decide +kernel
theorem dX6_digestInto_19 : decode cX6_digestInto 19 = .ok (.aload_n 0, 1) := by decide +kernel
theorem dX6_digestInto_20 : decode cX6_digestInto 20 = .ok (.getfield 9, 3) := by decide +kernel
theorem dX6_digestInto_23 : decode cX6_digestInto 23 = .ok (.iload 5, 2) := by decide +kernel
theorem dX6_digestInto_25 : decode cX6_digestInto 25 = .ok (.iaload, 1) := by decide +kernel
theorem dX6_digestInto_26 : decode cX6_digestInto 26 = .ok (.i2l, 1) := by decide +kernel
theorem dX6_digestInto_27 : decode cX6_digestInto 27 = .ok (.ladd, 1) := by decide +kernel
theorem dX6_digestInto_28 : decode cX6_digestInto 28 = .ok (.lstore_n 3, 1) := by decide +kernel
theorem dX6_digestInto_29 : decode cX6_digestInto 29 = .ok (.ldc2_w 58, 3) := by decide +kernel
theorem dX6_digestInto_32 : decode cX6_digestInto 32 = .ok (.lload_n 3, 1) := by decide +kernel
theorem dX6_digestInto_33 : decode cX6_digestInto 33 = .ok (.lmul, 1) := by decide +kernel
theorem dX6_digestInto_34 : decode cX6_digestInto 34 = .ok (.aload_n 0, 1) := by decide +kernel
theorem dX6_digestInto_35 : decode cX6_digestInto 35 = .ok (.getfield 15, 3) := by decide +kernel
theorem dX6_digestInto_38 : decode cX6_digestInto 38 = .ok (.iload 5, 2) := by decide +kernel
theorem dX6_digestInto_40 : decode cX6_digestInto 40 = .ok (.iaload, 1) := by decide +kernel
theorem dX6_digestInto_41 : decode cX6_digestInto 41 = .ok (.i2l, 1) := by decide +kernel
theorem dX6_digestInto_42 : decode cX6_digestInto 42 = .ok (.ladd, 1) := by decide +kernel
theorem dX6_digestInto_43 : decode cX6_digestInto 43 = .ok (.lstore_n 3, 1) := by decide +kernel
theorem dX6_digestInto_44 : decode cX6_digestInto 44 = .ok (.ldc2_w 58, 3) := by decide +kernel
theorem dX6_digestInto_47 : decode cX6_digestInto 47 = .ok (.lload_n 3, 1) := by decide +kernel
theorem dX6_digestInto_48 : decode cX6_digestInto 48 = .ok (.lmul, 1) := by decide +kernel
theorem dX6_digestInto_49 : decode cX6_digestInto 49 = .ok (.aload_n 0, 1) := by decide +kernel
theorem dX6_digestInto_50 : decode cX6_digestInto 50 = .ok (.getfield 18, 3) := by decide +kernel
theorem dX6_digestInto_53 : decode cX6_digestInto 53 = .ok (.iload 5, 2) := by decide +kernel
theorem dX6_digestInto_55 : decode cX6_digestInto 55 = .ok (.iaload, 1) := by decide +kernel
theorem dX6_digestInto_56 : decode cX6_digestInto 56 = .ok (.i2l, 1) := by decide +kernel
theorem dX6_digestInto_57 : decode cX6_digestInto 57 = .ok (.ladd, 1) := by decide +kernel
theorem dX6_digestInto_58 : decode cX6_digestInto 58 = .ok (.lstore_n 3, 1) := by decide +kernel
theorem dX6_digestInto_59 : decode cX6_digestInto 59 = .ok (.iinc 5 1, 3) := by decide +kernel
theorem dX6_digestInto_62 : decode cX6_digestInto 62 = .ok (.goto (-57), 3) := by decide +kernel
theorem dX6_digestInto_65 : decode cX6_digestInto 65 = .ok (.lload_n 3, 1) := by decide +kernel
theorem dX6_digestInto_66 : decode cX6_digestInto 66 = .ok (.lreturn, 1) := by decide +kernel
theorem dX7_init_0 : decode cX7_init 0 = .ok (.aload_n 0, 1) := by decide +kernel
theorem dX7_init_1 : decode cX7_init 1 = .ok (.invokespecial 3, 3) := by decide +kernel
theorem dX7_init_4 : decode cX7_init 4 = .ok (.aload_n 0, 1) := by decide +kernel
theorem dX7_init_5 : decode cX7_init 5 = .ok (.bipush 9, 2) := by decide +kernel
theorem dX7_init_7 : decode cX7_init 7 = .ok (.bipush 9, 2) := by decide +kernel
theorem dX7_init_9 : decode cX7_init 9 = .ok (.multianewarray 9 2, 4) := by decide +kernel
theorem dX7_init_13 : decode cX7_init 13 = .ok (.putfield 11, 3) := by decide +kernel
theorem dX7_init_16 : decode cX7_init 16 = .ok (.aload_n 0, 1) := by decide +kernel
theorem dX7_init_17 : decode cX7_init 17 = .ok (.aload_n 1, 1) := by decide +kernel
theorem dX7_init_18 : decode cX7_init 18 = .ok (.putfield 16, 3) := by decide +kernel
theorem dX7_init_21 : decode cX7_init 21 = .ok (.return_, 1) := by decide +kernel
theorem dX7_longestRun_0 : decode cX7_longestRun 0 = .ok (.iconst 0, 1) := by decide +kernel
theorem dX7_longestRun_1 : decode cX7_longestRun 1 = .ok (.istore_n 3, 1) := by decide +kernel
theorem dX7_longestRun_2 : decode cX7_longestRun 2 = .ok (.iconst 1, 1) := by decide +kernel
theorem dX7_longestRun_3 : decode cX7_longestRun 3 = .ok (.istore 4, 2) := by decide +kernel
theorem dX7_longestRun_5 : decode cX7_longestRun 5 = .ok (.iload 4, 2) := by decide +kernel
theorem dX7_longestRun_7 : decode cX7_longestRun 7 = .ok (.aload_n 0, 1) := by decide +kernel
theorem dX7_longestRun_8 : decode cX7_longestRun 8 = .ok (.getfield 16, 3) := by decide +kernel
theorem dX7_longestRun_11 : decode cX7_longestRun 11 = .ok (.getfield 20, 3) := by decide +kernel
theorem dX7_longestRun_14 : decode cX7_longestRun 14 = .ok (.iload_n 1, 1) := by decide +kernel
theorem dX7_longestRun_15 : decode cX7_longestRun 15 = .ok (.iaload, 1) := by decide +kernel
theorem dX7_longestRun_16 : decode cX7_longestRun 16 = .ok (.if_icmp .gt 120, 3) := by decide +kernel
theorem dX7_longestRun_19 : decode cX7_longestRun 19 = .ok (.iconst 1, 1) := by decide +kernel
theorem dX7_longestRun_20 : decode cX7_longestRun 20 = .ok (.istore 5, 2) := by decide +kernel
theorem dX7_longestRun_22 : decode cX7_longestRun 22 = .ok (.iload 5, 2) := by decide +kernel
theorem dX7_longestRun_24 : decode cX7_longestRun 24 = .ok (.aload_n 0, 1) := by decide +kernel
theorem dX7_longestRun_25 : decode cX7_longestRun 25 = .ok (.getfield 16, 3) := by decide +kernel
theorem dX7_longestRun_28 : decode cX7_longestRun 28 = .ok (.getfield 20, 3) := by decide +kernel
theorem dX7_longestRun_31 : decode cX7_longestRun 31 = .ok (.iload_n 2, 1) := by decide +kernel
theorem dX7_longestRun_32 : decode cX7_longestRun 32 = .ok (.iaload, 1) := by decide +kernel
theorem dX7_longestRun_33 : decode cX7_longestRun 33 = .ok (.if_icmp .gt 97, 3) := by decide +kernel
theorem dX7_longestRun_36 : decode cX7_longestRun 36 = .ok (.aload_n 0, 1) := by decide +kernel
theorem dX7_longestRun_37 : decode cX7_longestRun 37 = .ok (.getfield 16, 3) := by decide +kernel
theorem dX7_longestRun_40 : decode cX7_longestRun 40 = .ok (.getfield 26, 3) := by decide +kernel
theorem dX7_longestRun_43 : decode cX7_longestRun 43 = .ok (.iload_n 1, 1) := by decide +kernel
theorem dX7_longestRun_44 : decode cX7_longestRun 44 = .ok (.aaload, 1) := by decide +kernel
theorem dX7_longestRun_45 : decode cX7_longestRun 45 = .ok (.iload 4, 2) := by decide +kernel
theorem dX7_longestRun_47 : decode cX7_longestRun 47 = .ok (.iconst 1, 1) := by decide +kernel
theorem dX7_longestRun_48 : decode cX7_longestRun 48 = .ok (.isub, 1) := by decide +kernel
theorem dX7_longestRun_49 : decode cX7_longestRun 49 = .ok (.iaload, 1) := by decide +kernel
theorem dX7_longestRun_50 : decode cX7_longestRun 50 = .ok (.aload_n 0, 1) := by decide +kernel
theorem dX7_longestRun_51 : decode cX7_longestRun 51 = .ok (.getfield 16, 3) := by decide +kernel
theorem dX7_longestRun_54 : decode cX7_longestRun 54 = .ok (.getfield 26, 3) := by decide +kernel
theorem dX7_longestRun_57 : decode cX7_longestRun 57 = .ok (.iload_n 2, 1) := by decide +kernel
theorem dX7_longestRun_58 : decode cX7_longestRun 58 = .ok (.aaload, 1) := by decide +kernel
theorem dX7_longestRun_59 : decode cX7_longestRun 59 = .ok (.iload 5, 2) := by decide +kernel
theorem dX7_longestRun_61 : decode cX7_longestRun 61 = .ok (.iconst 1, 1) := by decide +kernel
theorem dX7_longestRun_62 : decode cX7_longestRun 62 = .ok (.isub, 1) := by decide +kernel
theorem dX7_longestRun_63 : decode cX7_longestRun 63 = .ok (.iaload, 1) := by decide +kernel
theorem dX7_longestRun_64 : decode cX7_longestRun 64 = .ok (.if_icmp .ne 7, 3) := by decide +kernel
theorem dX7_longestRun_67 : decode cX7_longestRun 67 = .ok (.iconst 1, 1) := by decide +kernel
theorem dX7_longestRun_68 : decode cX7_longestRun 68 = .ok (.goto 4, 3) := by decide +kernel
theorem dX7_longestRun_71 : decode cX7_longestRun 71 = .ok (.iconst 0, 1) := by decide +kernel
theorem dX7_longestRun_72 : decode cX7_longestRun 72 = .ok (.istore 6, 2) := by decide +kernel
theorem dX7_longestRun_74 : decode cX7_longestRun 74 = .ok (.aload_n 0, 1) := by decide +kernel
theorem dX7_longestRun_75 : decode cX7_longestRun 75 = .ok (.getfield 11, 3) := by decide +kernel
theorem dX7_longestRun_78 : decode cX7_longestRun 78 = .ok (.iload 4, 2) := by decide +kernel
theorem dX7_longestRun_80 : decode cX7_longestRun 80 = .ok (.aaload, 1) := by decide +kernel
theorem dX7_longestRun_81 : decode cX7_longestRun 81 = .ok (.iload 5, 2) := by decide +kernel
theorem dX7_longestRun_83 : decode cX7_longestRun 83 = .ok (.iload 6, 2) := by decide +kernel
theorem dX7_longestRun_85 : decode cX7_longestRun 85 = .ok (.ifCond .eq 22, 3) := by decide +kernel
theorem dX7_longestRun_88 : decode cX7_longestRun 88 = .ok (.aload_n 0, 1) := by decide +kernel
theorem dX7_longestRun_89 : decode cX7_longestRun 89 = .ok (.getfield 11, 3) := by decide +kernel
theorem dX7_longestRun_92 : decode cX7_longestRun 92 = .ok (.iload 4, 2) := by decide +kernel
theorem dX7_longestRun_94 : decode cX7_longestRun 94 = .ok (.iconst 1, 1) := by decide +kernel
theorem dX7_longestRun_95 : decode cX7_longestRun 95 = .ok (.isub, 1) := by decide +kernel
theorem dX7_longestRun_96 : decode cX7_longestRun 96 = .ok (.aaload, 1) := by decide +kernel
theorem dX7_longestRun_97 : decode cX7_longestRun 97 = .ok (.iload 5, 2) := by decide +kernel
theorem dX7_longestRun_99 : decode cX7_longestRun 99 = .ok (.iconst 1, 1) := by decide +kernel
theorem dX7_longestRun_100 : decode cX7_longestRun 100 = .ok (.isub, 1) := by decide +kernel
theorem dX7_longestRun_101 : decode cX7_longestRun 101 = .ok (.iaload, 1) := by decide +kernel
theorem dX7_longestRun_102 : decode cX7_longestRun 102 = .ok (.iconst 1, 1) := by decide +kernel
theorem dX7_longestRun_103 : decode cX7_longestRun 103 = .ok (.iadd, 1) := by decide +kernel
theorem dX7_longestRun_104 : decode cX7_longestRun 104 = .ok (.goto 4, 3) := by decide +kernel
theorem dX7_longestRun_107 : decode cX7_longestRun 107 = .ok (.iconst 0, 1) := by decide +kernel
theorem dX7_longestRun_108 : decode cX7_longestRun 108 = .ok (.iastore, 1) := by decide +kernel
theorem dX7_longestRun_109 : decode cX7_longestRun 109 = .ok (.iload_n 3, 1) := by decide +kernel
theorem dX7_longestRun_110 : decode cX7_longestRun 110 = .ok (.aload_n 0, 1) := by decide +kernel
theorem dX7_longestRun_111 : decode cX7_longestRun 111 = .ok (.getfield 11, 3) := by decide +kernel
theorem dX7_longestRun_114 : decode cX7_longestRun 114 = .ok (.iload 4, 2) := by decide +kernel
theorem dX7_longestRun_116 : decode cX7_longestRun 116 = .ok (.aaload, 1) := by decide +kernel
theorem dX7_longestRun_117 : decode cX7_longestRun 117 = .ok (.iload 5, 2) := by decide +kernel
theorem dX7_longestRun_119 : decode cX7_longestRun 119 = .ok (.iaload, 1) := by decide +kernel
theorem dX7_longestRun_120 : decode cX7_longestRun 120 = .ok (.invokestatic 29, 3) := by decide +kernel
theorem dX7_longestRun_123 : decode cX7_longestRun 123 = .ok (.istore_n 3, 1) := by decide +kernel
theorem dX7_longestRun_124 : decode cX7_longestRun 124 = .ok (.iinc 5 1, 3) := by decide +kernel
theorem dX7_longestRun_127 : decode cX7_longestRun 127 = .ok (.goto (-105), 3) := by decide +kernel
theorem dX7_longestRun_130 : decode cX7_longestRun 130 = .ok (.iinc 4 1, 3) := by decide +kernel
theorem dX7_longestRun_133 : decode cX7_longestRun 133 = .ok (.goto (-128), 3) := by decide +kernel
theorem dX7_longestRun_136 : decode cX7_longestRun 136 = .ok (.iload_n 3, 1) := by decide +kernel
theorem dX7_longestRun_137 : decode cX7_longestRun 137 = .ok (.ireturn, 1) := by decide +kernel
theorem dX7_mostInOrder_0 : decode cX7_mostInOrder 0 = .ok (.iconst 1, 1) := by decide +kernel
theorem dX7_mostInOrder_1 : decode cX7_mostInOrder 1 = .ok (.istore_n 3, 1) := by decide +kernel
theorem dX7_mostInOrder_2 : decode cX7_mostInOrder 2 = .ok (.iload_n 3, 1) := by decide +kernel
theorem dX7_mostInOrder_3 : decode cX7_mostInOrder 3 = .ok (.aload_n 0, 1) := by decide +kernel
theorem dX7_mostInOrder_4 : decode cX7_mostInOrder 4 = .ok (.getfield 16, 3) := by decide +kernel
theorem dX7_mostInOrder_7 : decode cX7_mostInOrder 7 = .ok (.getfield 20, 3) := by decide +kernel
theorem dX7_mostInOrder_10 : decode cX7_mostInOrder 10 = .ok (.iload_n 1, 1) := by decide +kernel
theorem dX7_mostInOrder_11 : decode cX7_mostInOrder 11 = .ok (.iaload, 1) := by decide +kernel
theorem dX7_mostInOrder_12 : decode cX7_mostInOrder 12 = .ok (.if_icmp .gt 126, 3) := by decide +kernel
theorem dX7_mostInOrder_15 : decode cX7_mostInOrder 15 = .ok (.iconst 1, 1) := by decide +kernel
theorem dX7_mostInOrder_16 : decode cX7_mostInOrder 16 = .ok (.istore 4, 2) := by decide +kernel
theorem dX7_mostInOrder_18 : decode cX7_mostInOrder 18 = .ok (.iload 4, 2) := by decide +kernel
theorem dX7_mostInOrder_20 : decode cX7_mostInOrder 20 = .ok (.aload_n 0, 1) := by decide +kernel
theorem dX7_mostInOrder_21 : decode cX7_mostInOrder 21 = .ok (.getfield 16, 3) := by decide +kernel
theorem dX7_mostInOrder_24 : decode cX7_mostInOrder 24 = .ok (.getfield 20, 3) := by decide +kernel
theorem dX7_mostInOrder_27 : decode cX7_mostInOrder 27 = .ok (.iload_n 2, 1) := by decide +kernel
theorem dX7_mostInOrder_28 : decode cX7_mostInOrder 28 = .ok (.iaload, 1) := by decide +kernel
theorem dX7_mostInOrder_29 : decode cX7_mostInOrder 29 = .ok (.if_icmp .gt 103, 3) := by decide +kernel
theorem dX7_mostInOrder_32 : decode cX7_mostInOrder 32 = .ok (.aload_n 0, 1) := by decide +kernel
theorem dX7_mostInOrder_33 : decode cX7_mostInOrder 33 = .ok (.getfield 16, 3) := by decide +kernel
theorem dX7_mostInOrder_36 : decode cX7_mostInOrder 36 = .ok (.getfield 26, 3) := by decide +kernel
theorem dX7_mostInOrder_39 : decode cX7_mostInOrder 39 = .ok (.iload_n 1, 1) := by decide +kernel
theorem dX7_mostInOrder_40 : decode cX7_mostInOrder 40 = .ok (.aaload, 1) := by decide +kernel
theorem dX7_mostInOrder_41 : decode cX7_mostInOrder 41 = .ok (.iload_n 3, 1) := by decide +kernel
theorem dX7_mostInOrder_42 : decode cX7_mostInOrder 42 = .ok (.iconst 1, 1) := by decide +kernel
theorem dX7_mostInOrder_43 : decode cX7_mostInOrder 43 = .ok (.isub, 1) := by decide +kernel
theorem dX7_mostInOrder_44 : decode cX7_mostInOrder 44 = .ok (.iaload, 1) := by decide +kernel
theorem dX7_mostInOrder_45 : decode cX7_mostInOrder 45 = .ok (.aload_n 0, 1) := by decide +kernel
theorem dX7_mostInOrder_46 : decode cX7_mostInOrder 46 = .ok (.getfield 16, 3) := by decide +kernel
theorem dX7_mostInOrder_49 : decode cX7_mostInOrder 49 = .ok (.getfield 26, 3) := by decide +kernel
theorem dX7_mostInOrder_52 : decode cX7_mostInOrder 52 = .ok (.iload_n 2, 1) := by decide +kernel
theorem dX7_mostInOrder_53 : decode cX7_mostInOrder 53 = .ok (.aaload, 1) := by decide +kernel
theorem dX7_mostInOrder_54 : decode cX7_mostInOrder 54 = .ok (.iload 4, 2) := by decide +kernel
theorem dX7_mostInOrder_56 : decode cX7_mostInOrder 56 = .ok (.iconst 1, 1) := by decide +kernel
theorem dX7_mostInOrder_57 : decode cX7_mostInOrder 57 = .ok (.isub, 1) := by decide +kernel
theorem dX7_mostInOrder_58 : decode cX7_mostInOrder 58 = .ok (.iaload, 1) := by decide +kernel
theorem dX7_mostInOrder_59 : decode cX7_mostInOrder 59 = .ok (.if_icmp .ne 7, 3) := by decide +kernel
theorem dX7_mostInOrder_62 : decode cX7_mostInOrder 62 = .ok (.iconst 1, 1) := by decide +kernel
theorem dX7_mostInOrder_63 : decode cX7_mostInOrder 63 = .ok (.goto 4, 3) := by decide +kernel
theorem dX7_mostInOrder_66 : decode cX7_mostInOrder 66 = .ok (.iconst 0, 1) := by decide +kernel
theorem dX7_mostInOrder_67 : decode cX7_mostInOrder 67 = .ok (.istore 5, 2) := by decide +kernel
theorem dX7_mostInOrder_69 : decode cX7_mostInOrder 69 = .ok (.aload_n 0, 1) := by decide +kernel
theorem dX7_mostInOrder_70 : decode cX7_mostInOrder 70 = .ok (.getfield 11, 3) := by decide +kernel
theorem dX7_mostInOrder_73 : decode cX7_mostInOrder 73 = .ok (.iload_n 3, 1) := by decide +kernel
theorem dX7_mostInOrder_74 : decode cX7_mostInOrder 74 = .ok (.aaload, 1) := by decide +kernel
theorem dX7_mostInOrder_75 : decode cX7_mostInOrder 75 = .ok (.iload 4, 2) := by decide +kernel
theorem dX7_mostInOrder_77 : decode cX7_mostInOrder 77 = .ok (.iload 5, 2) := by decide +kernel
theorem dX7_mostInOrder_79 : decode cX7_mostInOrder 79 = .ok (.ifCond .eq 21, 3) := by decide +kernel
theorem dX7_mostInOrder_82 : decode cX7_mostInOrder 82 = .ok (.aload_n 0, 1) := by decide +kernel
theorem dX7_mostInOrder_83 : decode cX7_mostInOrder 83 = .ok (.getfield 11, 3) := by decide +kernel
theorem dX7_mostInOrder_86 : decode cX7_mostInOrder 86 = .ok (.iload_n 3, 1) := by decide +kernel
theorem dX7_mostInOrder_87 : decode cX7_mostInOrder 87 = .ok (.iconst 1, 1) := by decide +kernel
theorem dX7_mostInOrder_88 : decode cX7_mostInOrder 88 = .ok (.isub, 1) := by decide +kernel
theorem dX7_mostInOrder_89 : decode cX7_mostInOrder 89 = .ok (.aaload, 1) := by decide +kernel
theorem dX7_mostInOrder_90 : decode cX7_mostInOrder 90 = .ok (.iload 4, 2) := by decide +kernel
theorem dX7_mostInOrder_92 : decode cX7_mostInOrder 92 = .ok (.iconst 1, 1) := by decide +kernel
theorem dX7_mostInOrder_93 : decode cX7_mostInOrder 93 = .ok (.isub, 1) := by decide +kernel
theorem dX7_mostInOrder_94 : decode cX7_mostInOrder 94 = .ok (.iaload, 1) := by decide +kernel
theorem dX7_mostInOrder_95 : decode cX7_mostInOrder 95 = .ok (.iconst 1, 1) := by decide +kernel
theorem dX7_mostInOrder_96 : decode cX7_mostInOrder 96 = .ok (.iadd, 1) := by decide +kernel
theorem dX7_mostInOrder_97 : decode cX7_mostInOrder 97 = .ok (.goto 28, 3) := by decide +kernel
theorem dX7_mostInOrder_100 : decode cX7_mostInOrder 100 = .ok (.aload_n 0, 1) := by decide +kernel
theorem dX7_mostInOrder_101 : decode cX7_mostInOrder 101 = .ok (.getfield 11, 3) := by decide +kernel
theorem dX7_mostInOrder_104 : decode cX7_mostInOrder 104 = .ok (.iload_n 3, 1) := by decide +kernel
theorem dX7_mostInOrder_105 : decode cX7_mostInOrder 105 = .ok (.iconst 1, 1) := by decide +kernel
theorem dX7_mostInOrder_106 : decode cX7_mostInOrder 106 = .ok (.isub, 1) := by decide +kernel
theorem dX7_mostInOrder_107 : decode cX7_mostInOrder 107 = .ok (.aaload, 1) := by decide +kernel
theorem dX7_mostInOrder_108 : decode cX7_mostInOrder 108 = .ok (.iload 4, 2) := by decide +kernel
theorem dX7_mostInOrder_110 : decode cX7_mostInOrder 110 = .ok (.iaload, 1) := by decide +kernel
theorem dX7_mostInOrder_111 : decode cX7_mostInOrder 111 = .ok (.aload_n 0, 1) := by decide +kernel
theorem dX7_mostInOrder_112 : decode cX7_mostInOrder 112 = .ok (.getfield 11, 3) := by decide +kernel
theorem dX7_mostInOrder_115 : decode cX7_mostInOrder 115 = .ok (.iload_n 3, 1) := by decide +kernel
theorem dX7_mostInOrder_116 : decode cX7_mostInOrder 116 = .ok (.aaload, 1) := by decide +kernel
theorem dX7_mostInOrder_117 : decode cX7_mostInOrder 117 = .ok (.iload 4, 2) := by decide +kernel
theorem dX7_mostInOrder_119 : decode cX7_mostInOrder 119 = .ok (.iconst 1, 1) := by decide +kernel
theorem dX7_mostInOrder_120 : decode cX7_mostInOrder 120 = .ok (.isub, 1) := by decide +kernel
theorem dX7_mostInOrder_121 : decode cX7_mostInOrder 121 = .ok (.iaload, 1) := by decide +kernel
theorem dX7_mostInOrder_122 : decode cX7_mostInOrder 122 = .ok (.invokestatic 29, 3) := by decide +kernel
theorem dX7_mostInOrder_125 : decode cX7_mostInOrder 125 = .ok (.iastore, 1) := by decide +kernel
theorem dX7_mostInOrder_126 : decode cX7_mostInOrder 126 = .ok (.iinc 4 1, 3) := by decide +kernel
theorem dX7_mostInOrder_129 : decode cX7_mostInOrder 129 = .ok (.goto (-111), 3) := by decide +kernel
theorem dX7_mostInOrder_132 : decode cX7_mostInOrder 132 = .ok (.iinc 3 1, 3) := by decide +kernel
theorem dX7_mostInOrder_135 : decode cX7_mostInOrder 135 = .ok (.goto (-133), 3) := by decide +kernel
theorem dX7_mostInOrder_138 : decode cX7_mostInOrder 138 = .ok (.aload_n 0, 1) := by decide +kernel
theorem dX7_mostInOrder_139 : decode cX7_mostInOrder 139 = .ok (.getfield 11, 3) := by decide +kernel
theorem dX7_mostInOrder_142 : decode cX7_mostInOrder 142 = .ok (.aload_n 0, 1) := by decide +kernel
theorem dX7_mostInOrder_143 : decode cX7_mostInOrder 143 = .ok (.getfield 16, 3) := by decide +kernel
theorem dX7_mostInOrder_146 : decode cX7_mostInOrder 146 = .ok (.getfield 20, 3) := by decide +kernel
theorem dX7_mostInOrder_149 : decode cX7_mostInOrder 149 = .ok (.iload_n 1, 1) := by decide +kernel
theorem dX7_mostInOrder_150 : decode cX7_mostInOrder 150 = .ok (.iaload, 1) := by decide +kernel
theorem dX7_mostInOrder_151 : decode cX7_mostInOrder 151 = .ok (.aaload, 1) := by decide +kernel
theorem dX7_mostInOrder_152 : decode cX7_mostInOrder 152 = .ok (.aload_n 0, 1) := by decide +kernel
theorem dX7_mostInOrder_153 : decode cX7_mostInOrder 153 = .ok (.getfield 16, 3) := by decide +kernel
theorem dX7_mostInOrder_156 : decode cX7_mostInOrder 156 = .ok (.getfield 20, 3) := by decide +kernel
theorem dX7_mostInOrder_159 : decode cX7_mostInOrder 159 = .ok (.iload_n 2, 1) := by decide +kernel
theorem dX7_mostInOrder_160 : decode cX7_mostInOrder 160 = .ok (.iaload, 1) := by decide +kernel
theorem dX7_mostInOrder_161 : decode cX7_mostInOrder 161 = .ok (.iaload, 1) := by decide +kernel
theorem dX7_mostInOrder_162 : decode cX7_mostInOrder 162 = .ok (.ireturn, 1) := by decide +kernel
theorem dX7_leftFrom_0 : decode cX7_leftFrom 0 = .ok (.iconst (-1), 1) := by decide +kernel
theorem dX7_leftFrom_1 : decode cX7_leftFrom 1 = .ok (.istore_n 3, 1) := by decide +kernel
theorem dX7_leftFrom_2 : decode cX7_leftFrom 2 = .ok (.iload_n 2, 1) := by decide +kernel
theorem dX7_leftFrom_3 : decode cX7_leftFrom 3 = .ok (.iconst 1, 1) := by decide +kernel
theorem dX7_leftFrom_4 : decode cX7_leftFrom 4 = .ok (.isub, 1) := by decide +kernel
theorem dX7_leftFrom_5 : decode cX7_leftFrom 5 = .ok (.istore 4, 2) := by decide +kernel
theorem dX7_leftFrom_7 : decode cX7_leftFrom 7 = .ok (.iconst 0, 1) := by decide +kernel
theorem dX7_leftFrom_8 : decode cX7_leftFrom 8 = .ok (.istore 5, 2) := by decide +kernel
theorem dX7_leftFrom_10 : decode cX7_leftFrom 10 = .ok (.iload 5, 2) := by decide +kernel
theorem dX7_leftFrom_12 : decode cX7_leftFrom 12 = .ok (.aload_n 0, 1) := by decide +kernel
theorem dX7_leftFrom_13 : decode cX7_leftFrom 13 = .ok (.getfield 16, 3) := by decide +kernel
theorem dX7_leftFrom_16 : decode cX7_leftFrom 16 = .ok (.getfield 35, 3) := by decide +kernel
theorem dX7_leftFrom_19 : decode cX7_leftFrom 19 = .ok (.if_icmp .ge 88, 3) := by decide +kernel
theorem dX7_leftFrom_22 : decode cX7_leftFrom 22 = .ok (.aload_n 0, 1) := by decide +kernel
theorem dX7_leftFrom_23 : decode cX7_leftFrom 23 = .ok (.getfield 16, 3) := by decide +kernel
theorem dX7_leftFrom_26 : decode cX7_leftFrom 26 = .ok (.getfield 39, 3) := by decide +kernel
theorem dX7_leftFrom_29 : decode cX7_leftFrom 29 = .ok (.iload 5, 2) := by decide +kernel
theorem dX7_leftFrom_31 : decode cX7_leftFrom 31 = .ok (.iaload, 1) := by decide +kernel
theorem dX7_leftFrom_32 : decode cX7_leftFrom 32 = .ok (.aload_n 0, 1) := by decide +kernel
theorem dX7_leftFrom_33 : decode cX7_leftFrom 33 = .ok (.getfield 16, 3) := by decide +kernel
theorem dX7_leftFrom_36 : decode cX7_leftFrom 36 = .ok (.getfield 39, 3) := by decide +kernel
theorem dX7_leftFrom_39 : decode cX7_leftFrom 39 = .ok (.iload_n 1, 1) := by decide +kernel
theorem dX7_leftFrom_40 : decode cX7_leftFrom 40 = .ok (.iaload, 1) := by decide +kernel
theorem dX7_leftFrom_41 : decode cX7_leftFrom 41 = .ok (.if_icmp .ge 7, 3) := by decide +kernel
theorem dX7_leftFrom_44 : decode cX7_leftFrom 44 = .ok (.iconst 1, 1) := by decide +kernel
theorem dX7_leftFrom_45 : decode cX7_leftFrom 45 = .ok (.goto 4, 3) := by decide +kernel
theorem dX7_leftFrom_48 : decode cX7_leftFrom 48 = .ok (.iconst 0, 1) := by decide +kernel
theorem dX7_leftFrom_49 : decode cX7_leftFrom 49 = .ok (.istore 6, 2) := by decide +kernel
theorem dX7_leftFrom_51 : decode cX7_leftFrom 51 = .ok (.iload 6, 2) := by decide +kernel
theorem dX7_leftFrom_53 : decode cX7_leftFrom 53 = .ok (.ifCond .eq 48, 3) := by decide +kernel
theorem dX7_leftFrom_56 : decode cX7_leftFrom 56 = .ok (.aload_n 0, 1) := by decide +kernel
theorem dX7_leftFrom_57 : decode cX7_leftFrom 57 = .ok (.getfield 16, 3) := by decide +kernel
theorem dX7_leftFrom_60 : decode cX7_leftFrom 60 = .ok (.getfield 42, 3) := by decide +kernel
theorem dX7_leftFrom_63 : decode cX7_leftFrom 63 = .ok (.iload 5, 2) := by decide +kernel
theorem dX7_leftFrom_65 : decode cX7_leftFrom 65 = .ok (.iaload, 1) := by decide +kernel
theorem dX7_leftFrom_66 : decode cX7_leftFrom 66 = .ok (.aload_n 0, 1) := by decide +kernel
theorem dX7_leftFrom_67 : decode cX7_leftFrom 67 = .ok (.getfield 16, 3) := by decide +kernel
theorem dX7_leftFrom_70 : decode cX7_leftFrom 70 = .ok (.getfield 42, 3) := by decide +kernel
theorem dX7_leftFrom_73 : decode cX7_leftFrom 73 = .ok (.iload_n 1, 1) := by decide +kernel
theorem dX7_leftFrom_74 : decode cX7_leftFrom 74 = .ok (.iaload, 1) := by decide +kernel
theorem dX7_leftFrom_75 : decode cX7_leftFrom 75 = .ok (.if_icmp .ne 26, 3) := by decide +kernel
theorem dX7_leftFrom_78 : decode cX7_leftFrom 78 = .ok (.aload_n 0, 1) := by decide +kernel
theorem dX7_leftFrom_79 : decode cX7_leftFrom 79 = .ok (.iload_n 1, 1) := by decide +kernel
theorem dX7_leftFrom_80 : decode cX7_leftFrom 80 = .ok (.iload 5, 2) := by decide +kernel
theorem dX7_leftFrom_82 : decode cX7_leftFrom 82 = .ok (.invokevirtual 45, 3) := by decide +kernel
theorem dX7_leftFrom_85 : decode cX7_leftFrom 85 = .ok (.istore 7, 2) := by decide +kernel
theorem dX7_leftFrom_87 : decode cX7_leftFrom 87 = .ok (.iload 7, 2) := by decide +kernel
theorem dX7_leftFrom_89 : decode cX7_leftFrom 89 = .ok (.iload 4, 2) := by decide +kernel
theorem dX7_leftFrom_91 : decode cX7_leftFrom 91 = .ok (.if_icmp .le 10, 3) := by decide +kernel
theorem dX7_leftFrom_94 : decode cX7_leftFrom 94 = .ok (.iload 7, 2) := by decide +kernel
theorem dX7_leftFrom_96 : decode cX7_leftFrom 96 = .ok (.istore 4, 2) := by decide +kernel
theorem dX7_leftFrom_98 : decode cX7_leftFrom 98 = .ok (.iload 5, 2) := by decide +kernel
theorem dX7_leftFrom_100 : decode cX7_leftFrom 100 = .ok (.istore_n 3, 1) := by decide +kernel
theorem dX7_leftFrom_101 : decode cX7_leftFrom 101 = .ok (.iinc 5 1, 3) := by decide +kernel
theorem dX7_leftFrom_104 : decode cX7_leftFrom 104 = .ok (.goto (-94), 3) := by decide +kernel
theorem dX7_leftFrom_107 : decode cX7_leftFrom 107 = .ok (.iload_n 3, 1) := by decide +kernel
theorem dX7_leftFrom_108 : decode cX7_leftFrom 108 = .ok (.ireturn, 1) := by decide +kernel
theorem dX8_init_0 : decode cX8_init 0 = .ok (.aload_n 0, 1) := by decide +kernel
theorem dX8_init_1 : decode cX8_init 1 = .ok (.invokespecial 3, 3) := by decide +kernel
theorem dX8_init_4 : decode cX8_init 4 = .ok (.aload_n 0, 1) := by decide +kernel
theorem dX8_init_5 : decode cX8_init 5 = .ok (.bipush 24, 2) := by decide +kernel
theorem dX8_init_7 : decode cX8_init 7 = .ok (.bipush 8, 2) := by decide +kernel
theorem dX8_init_9 : decode cX8_init 9 = .ok (.multianewarray 9 2, 4) := by decide +kernel
theorem dX8_init_13 : decode cX8_init 13 = .ok (.putfield 11, 3) := by decide +kernel
theorem dX8_init_16 : decode cX8_init 16 = .ok (.aload_n 0, 1) := by decide +kernel
theorem dX8_init_17 : decode cX8_init 17 = .ok (.bipush 24, 2) := by decide +kernel
theorem dX8_init_19 : decode cX8_init 19 = .ok (.newarray .int, 2) := by decide +kernel
theorem dX8_init_21 : decode cX8_init 21 = .ok (.putfield 16, 3) := by decide +kernel
theorem dX8_init_24 : decode cX8_init 24 = .ok (.aload_n 0, 1) := by decide +kernel
theorem dX8_init_25 : decode cX8_init 25 = .ok (.aload_n 1, 1) := by decide +kernel
theorem dX8_init_26 : decode cX8_init 26 = .ok (.putfield 20, 3) := by decide +kernel
theorem dX8_init_29 : decode cX8_init 29 = .ok (.return_, 1) := by decide +kernel
theorem dX8_takeAllBut_0 : decode cX8_takeAllBut 0 = .ok (.aload_n 0, 1) := by decide +kernel
theorem dX8_takeAllBut_1 : decode cX8_takeAllBut 1 = .ok (.getfield 16, 3) := by decide +kernel
theorem dX8_takeAllBut_4 : decode cX8_takeAllBut 4 = .ok (.iconst 0, 1) := by decide +kernel
theorem dX8_takeAllBut_5 : decode cX8_takeAllBut 5 = .ok (.invokestatic 24, 3) := by decide +kernel
theorem dX8_takeAllBut_8 : decode cX8_takeAllBut 8 = .ok (.iconst 0, 1) := by decide +kernel
theorem dX8_takeAllBut_9 : decode cX8_takeAllBut 9 = .ok (.istore_n 2, 1) := by decide +kernel
theorem dX8_takeAllBut_10 : decode cX8_takeAllBut 10 = .ok (.iload_n 2, 1) := by decide +kernel
theorem dX8_takeAllBut_11 : decode cX8_takeAllBut 11 = .ok (.aload_n 0, 1) := by decide +kernel
theorem dX8_takeAllBut_12 : decode cX8_takeAllBut 12 = .ok (.getfield 11, 3) := by decide +kernel
theorem dX8_takeAllBut_15 : decode cX8_takeAllBut 15 = .ok (.arraylength, 1) := by decide +kernel
theorem dX8_takeAllBut_16 : decode cX8_takeAllBut 16 = .ok (.if_icmp .ge 19, 3) := by decide +kernel
theorem dX8_takeAllBut_19 : decode cX8_takeAllBut 19 = .ok (.aload_n 0, 1) := by decide +kernel
theorem dX8_takeAllBut_20 : decode cX8_takeAllBut 20 = .ok (.getfield 11, 3) := by decide +kernel
theorem dX8_takeAllBut_23 : decode cX8_takeAllBut 23 = .ok (.iload_n 2, 1) := by decide +kernel
theorem dX8_takeAllBut_24 : decode cX8_takeAllBut 24 = .ok (.aaload, 1) := by decide +kernel
theorem dX8_takeAllBut_25 : decode cX8_takeAllBut 25 = .ok (.iconst 0, 1) := by decide +kernel
theorem dX8_takeAllBut_26 : decode cX8_takeAllBut 26 = .ok (.invokestatic 24, 3) := by decide +kernel
theorem dX8_takeAllBut_29 : decode cX8_takeAllBut 29 = .ok (.iinc 2 1, 3) := by decide +kernel
theorem dX8_takeAllBut_32 : decode cX8_takeAllBut 32 = .ok (.goto (-22), 3) := by decide +kernel
theorem dX8_takeAllBut_35 : decode cX8_takeAllBut 35 = .ok (.iconst 0, 1) := by decide +kernel
theorem dX8_takeAllBut_36 : decode cX8_takeAllBut 36 = .ok (.istore_n 2, 1) := by decide +kernel
theorem dX8_takeAllBut_37 : decode cX8_takeAllBut 37 = .ok (.iload_n 2, 1) := by decide +kernel
theorem dX8_takeAllBut_38 : decode cX8_takeAllBut 38 = .ok (.aload_n 0, 1) := by decide +kernel
theorem dX8_takeAllBut_39 : decode cX8_takeAllBut 39 = .ok (.getfield 20, 3) := by decide +kernel
theorem dX8_takeAllBut_42 : decode cX8_takeAllBut 42 = .ok (.getfield 30, 3) := by decide +kernel
theorem dX8_takeAllBut_45 : decode cX8_takeAllBut 45 = .ok (.if_icmp .ge 60, 3) := by decide +kernel
theorem dX8_takeAllBut_48 : decode cX8_takeAllBut 48 = .ok (.aload_n 0, 1) := by decide +kernel
theorem dX8_takeAllBut_49 : decode cX8_takeAllBut 49 = .ok (.getfield 20, 3) := by decide +kernel
theorem dX8_takeAllBut_52 : decode cX8_takeAllBut 52 = .ok (.getfield 36, 3) := by decide +kernel
theorem dX8_takeAllBut_55 : decode cX8_takeAllBut 55 = .ok (.iload_n 2, 1) := by decide +kernel
theorem dX8_takeAllBut_56 : decode cX8_takeAllBut 56 = .ok (.iaload, 1) := by decide +kernel
theorem dX8_takeAllBut_57 : decode cX8_takeAllBut 57 = .ok (.istore_n 3, 1) := by decide +kernel
theorem dX8_takeAllBut_58 : decode cX8_takeAllBut 58 = .ok (.aload_n 0, 1) := by decide +kernel
theorem dX8_takeAllBut_59 : decode cX8_takeAllBut 59 = .ok (.getfield 20, 3) := by decide +kernel
theorem dX8_takeAllBut_62 : decode cX8_takeAllBut 62 = .ok (.getfield 39, 3) := by decide +kernel
theorem dX8_takeAllBut_65 : decode cX8_takeAllBut 65 = .ok (.iload_n 3, 1) := by decide +kernel
theorem dX8_takeAllBut_66 : decode cX8_takeAllBut 66 = .ok (.iaload, 1) := by decide +kernel
theorem dX8_takeAllBut_67 : decode cX8_takeAllBut 67 = .ok (.istore 4, 2) := by decide +kernel
theorem dX8_takeAllBut_69 : decode cX8_takeAllBut 69 = .ok (.iload_n 3, 1) := by decide +kernel
theorem dX8_takeAllBut_70 : decode cX8_takeAllBut 70 = .ok (.iload_n 1, 1) := by decide +kernel
theorem dX8_takeAllBut_71 : decode cX8_takeAllBut 71 = .ok (.if_icmp .eq 28, 3) := by decide +kernel
theorem dX8_takeAllBut_74 : decode cX8_takeAllBut 74 = .ok (.iload 4, 2) := by decide +kernel
theorem dX8_takeAllBut_76 : decode cX8_takeAllBut 76 = .ok (.iconst (-1), 1) := by decide +kernel
theorem dX8_takeAllBut_77 : decode cX8_takeAllBut 77 = .ok (.if_icmp .eq 22, 3) := by decide +kernel
theorem dX8_takeAllBut_80 : decode cX8_takeAllBut 80 = .ok (.aload_n 0, 1) := by decide +kernel
theorem dX8_takeAllBut_81 : decode cX8_takeAllBut 81 = .ok (.iload_n 2, 1) := by decide +kernel
theorem dX8_takeAllBut_82 : decode cX8_takeAllBut 82 = .ok (.aload_n 0, 1) := by decide +kernel
theorem dX8_takeAllBut_83 : decode cX8_takeAllBut 83 = .ok (.getfield 20, 3) := by decide +kernel
theorem dX8_takeAllBut_86 : decode cX8_takeAllBut 86 = .ok (.getfield 42, 3) := by decide +kernel
theorem dX8_takeAllBut_89 : decode cX8_takeAllBut 89 = .ok (.iload_n 2, 1) := by decide +kernel
theorem dX8_takeAllBut_90 : decode cX8_takeAllBut 90 = .ok (.iaload, 1) := by decide +kernel
theorem dX8_takeAllBut_91 : decode cX8_takeAllBut 91 = .ok (.iload 4, 2) := by decide +kernel
theorem dX8_takeAllBut_93 : decode cX8_takeAllBut 93 = .ok (.invokestatic 45, 3) := by decide +kernel
theorem dX8_takeAllBut_96 : decode cX8_takeAllBut 96 = .ok (.invokevirtual 49, 3) := by decide +kernel
theorem dX8_takeAllBut_99 : decode cX8_takeAllBut 99 = .ok (.iinc 2 1, 3) := by decide +kernel
theorem dX8_takeAllBut_102 : decode cX8_takeAllBut 102 = .ok (.goto (-65), 3) := by decide +kernel
theorem dX8_takeAllBut_105 : decode cX8_takeAllBut 105 = .ok (.return_, 1) := by decide +kernel
theorem dX8_takeLetter_0 : decode cX8_takeLetter 0 = .ok (.iconst 0, 1) := by decide +kernel
theorem dX8_takeLetter_1 : decode cX8_takeLetter 1 = .ok (.istore_n 3, 1) := by decide +kernel
theorem dX8_takeLetter_2 : decode cX8_takeLetter 2 = .ok (.iload_n 3, 1) := by decide +kernel
theorem dX8_takeLetter_3 : decode cX8_takeLetter 3 = .ok (.aload_n 0, 1) := by decide +kernel
theorem dX8_takeLetter_4 : decode cX8_takeLetter 4 = .ok (.getfield 20, 3) := by decide +kernel
theorem dX8_takeLetter_7 : decode cX8_takeLetter 7 = .ok (.getfield 53, 3) := by decide +kernel
theorem dX8_takeLetter_10 : decode cX8_takeLetter 10 = .ok (.iload_n 1, 1) := by decide +kernel
theorem dX8_takeLetter_11 : decode cX8_takeLetter 11 = .ok (.iaload, 1) := by decide +kernel
theorem dX8_takeLetter_12 : decode cX8_takeLetter 12 = .ok (.if_icmp .ge 41, 3) := by decide +kernel
theorem dX8_takeLetter_15 : decode cX8_takeLetter 15 = .ok (.aload_n 0, 1) := by decide +kernel
theorem dX8_takeLetter_16 : decode cX8_takeLetter 16 = .ok (.getfield 11, 3) := by decide +kernel
theorem dX8_takeLetter_19 : decode cX8_takeLetter 19 = .ok (.iload_n 2, 1) := by decide +kernel
theorem dX8_takeLetter_20 : decode cX8_takeLetter 20 = .ok (.aaload, 1) := by decide +kernel
theorem dX8_takeLetter_21 : decode cX8_takeLetter 21 = .ok (.aload_n 0, 1) := by decide +kernel
theorem dX8_takeLetter_22 : decode cX8_takeLetter 22 = .ok (.getfield 20, 3) := by decide +kernel
theorem dX8_takeLetter_25 : decode cX8_takeLetter 25 = .ok (.getfield 56, 3) := by decide +kernel
theorem dX8_takeLetter_28 : decode cX8_takeLetter 28 = .ok (.iload_n 1, 1) := by decide +kernel
theorem dX8_takeLetter_29 : decode cX8_takeLetter 29 = .ok (.aaload, 1) := by decide +kernel
theorem dX8_takeLetter_30 : decode cX8_takeLetter 30 = .ok (.iload_n 3, 1) := by decide +kernel
theorem dX8_takeLetter_31 : decode cX8_takeLetter 31 = .ok (.iaload, 1) := by decide +kernel
theorem dX8_takeLetter_32 : decode cX8_takeLetter 32 = .ok (.dup2, 1) := by decide +kernel
theorem dX8_takeLetter_33 : decode cX8_takeLetter 33 = .ok (.iaload, 1) := by decide +kernel
theorem dX8_takeLetter_34 : decode cX8_takeLetter 34 = .ok (.iconst 1, 1) := by decide +kernel
theorem dX8_takeLetter_35 : decode cX8_takeLetter 35 = .ok (.iadd, 1) := by decide +kernel
theorem dX8_takeLetter_36 : decode cX8_takeLetter 36 = .ok (.iastore, 1) := by decide +kernel
theorem dX8_takeLetter_37 : decode cX8_takeLetter 37 = .ok (.aload_n 0, 1) := by decide +kernel
theorem dX8_takeLetter_38 : decode cX8_takeLetter 38 = .ok (.getfield 16, 3) := by decide +kernel
theorem dX8_takeLetter_41 : decode cX8_takeLetter 41 = .ok (.iload_n 2, 1) := by decide +kernel
theorem dX8_takeLetter_42 : decode cX8_takeLetter 42 = .ok (.dup2, 1) := by decide +kernel
theorem dX8_takeLetter_43 : decode cX8_takeLetter 43 = .ok (.iaload, 1) := by decide +kernel
theorem dX8_takeLetter_44 : decode cX8_takeLetter 44 = .ok (.iconst 1, 1) := by decide +kernel
theorem dX8_takeLetter_45 : decode cX8_takeLetter 45 = .ok (.iadd, 1) := by decide +kernel
theorem dX8_takeLetter_46 : decode cX8_takeLetter 46 = .ok (.iastore, 1) := by decide +kernel
theorem dX8_takeLetter_47 : decode cX8_takeLetter 47 = .ok (.iinc 3 1, 3) := by decide +kernel
theorem dX8_takeLetter_50 : decode cX8_takeLetter 50 = .ok (.goto (-48), 3) := by decide +kernel
theorem dX8_takeLetter_53 : decode cX8_takeLetter 53 = .ok (.return_, 1) := by decide +kernel
theorem dX8_rowOf_0 : decode cX8_rowOf 0 = .ok (.iload_n 0, 1) := by decide +kernel
theorem dX8_rowOf_1 : decode cX8_rowOf 1 = .ok (.iconst 4, 1) := by decide +kernel
theorem dX8_rowOf_2 : decode cX8_rowOf 2 = .ok (.imul, 1) := by decide +kernel
theorem dX8_rowOf_3 : decode cX8_rowOf 3 = .ok (.iload_n 1, 1) := by decide +kernel
theorem dX8_rowOf_4 : decode cX8_rowOf 4 = .ok (.iadd, 1) := by decide +kernel
theorem dX8_rowOf_5 : decode cX8_rowOf 5 = .ok (.ireturn, 1) := by decide +kernel
theorem dX8_usesOf_0 : decode cX8_usesOf 0 = .ok (.aload_n 0, 1) := by decide +kernel
theorem dX8_usesOf_1 : decode cX8_usesOf 1 = .ok (.getfield 11, 3) := by decide +kernel
theorem dX8_usesOf_4 : decode cX8_usesOf 4 = .ok (.iload_n 1, 1) := by decide +kernel
theorem dX8_usesOf_5 : decode cX8_usesOf 5 = .ok (.iload_n 3, 1) := by decide +kernel
theorem dX8_usesOf_6 : decode cX8_usesOf 6 = .ok (.invokestatic 45, 3) := by decide +kernel
theorem dX8_usesOf_9 : decode cX8_usesOf 9 = .ok (.aaload, 1) := by decide +kernel
theorem dX8_usesOf_10 : decode cX8_usesOf 10 = .ok (.iload_n 2, 1) := by decide +kernel
theorem dX8_usesOf_11 : decode cX8_usesOf 11 = .ok (.iaload, 1) := by decide +kernel
theorem dX8_usesOf_12 : decode cX8_usesOf 12 = .ok (.istore 4, 2) := by decide +kernel
theorem dX8_usesOf_14 : decode cX8_usesOf 14 = .ok (.aload_n 0, 1) := by decide +kernel
theorem dX8_usesOf_15 : decode cX8_usesOf 15 = .ok (.getfield 20, 3) := by decide +kernel
theorem dX8_usesOf_18 : decode cX8_usesOf 18 = .ok (.getfield 59, 3) := by decide +kernel
theorem dX8_usesOf_21 : decode cX8_usesOf 21 = .ok (.iload_n 1, 1) := by decide +kernel
theorem dX8_usesOf_22 : decode cX8_usesOf 22 = .ok (.iaload, 1) := by decide +kernel
theorem dX8_usesOf_23 : decode cX8_usesOf 23 = .ok (.istore 5, 2) := by decide +kernel
theorem dX8_usesOf_25 : decode cX8_usesOf 25 = .ok (.iload 5, 2) := by decide +kernel
theorem dX8_usesOf_27 : decode cX8_usesOf 27 = .ok (.iconst (-1), 1) := by decide +kernel
theorem dX8_usesOf_28 : decode cX8_usesOf 28 = .ok (.if_icmp .ne 8, 3) := by decide +kernel
theorem dX8_usesOf_31 : decode cX8_usesOf 31 = .ok (.iload 4, 2) := by decide +kernel
theorem dX8_usesOf_33 : decode cX8_usesOf 33 = .ok (.goto 19, 3) := by decide +kernel
theorem dX8_usesOf_36 : decode cX8_usesOf 36 = .ok (.iload 4, 2) := by decide +kernel
theorem dX8_usesOf_38 : decode cX8_usesOf 38 = .ok (.aload_n 0, 1) := by decide +kernel
theorem dX8_usesOf_39 : decode cX8_usesOf 39 = .ok (.getfield 11, 3) := by decide +kernel
theorem dX8_usesOf_42 : decode cX8_usesOf 42 = .ok (.iload 5, 2) := by decide +kernel
theorem dX8_usesOf_44 : decode cX8_usesOf 44 = .ok (.iload_n 3, 1) := by decide +kernel
theorem dX8_usesOf_45 : decode cX8_usesOf 45 = .ok (.invokestatic 45, 3) := by decide +kernel
theorem dX8_usesOf_48 : decode cX8_usesOf 48 = .ok (.aaload, 1) := by decide +kernel
theorem dX8_usesOf_49 : decode cX8_usesOf 49 = .ok (.iload_n 2, 1) := by decide +kernel
theorem dX8_usesOf_50 : decode cX8_usesOf 50 = .ok (.iaload, 1) := by decide +kernel
theorem dX8_usesOf_51 : decode cX8_usesOf 51 = .ok (.iadd, 1) := by decide +kernel
theorem dX8_usesOf_52 : decode cX8_usesOf 52 = .ok (.ireturn, 1) := by decide +kernel
theorem dX8_usesOfAll_0 : decode cX8_usesOfAll 0 = .ok (.aload_n 0, 1) := by decide +kernel
theorem dX8_usesOfAll_1 : decode cX8_usesOfAll 1 = .ok (.getfield 16, 3) := by decide +kernel
theorem dX8_usesOfAll_4 : decode cX8_usesOfAll 4 = .ok (.iload_n 1, 1) := by decide +kernel
theorem dX8_usesOfAll_5 : decode cX8_usesOfAll 5 = .ok (.iload_n 2, 1) := by decide +kernel
theorem dX8_usesOfAll_6 : decode cX8_usesOfAll 6 = .ok (.invokestatic 45, 3) := by decide +kernel
theorem dX8_usesOfAll_9 : decode cX8_usesOfAll 9 = .ok (.iaload, 1) := by decide +kernel
theorem dX8_usesOfAll_10 : decode cX8_usesOfAll 10 = .ok (.istore_n 3, 1) := by decide +kernel
theorem dX8_usesOfAll_11 : decode cX8_usesOfAll 11 = .ok (.aload_n 0, 1) := by decide +kernel
theorem dX8_usesOfAll_12 : decode cX8_usesOfAll 12 = .ok (.getfield 20, 3) := by decide +kernel
theorem dX8_usesOfAll_15 : decode cX8_usesOfAll 15 = .ok (.getfield 59, 3) := by decide +kernel
theorem dX8_usesOfAll_18 : decode cX8_usesOfAll 18 = .ok (.iload_n 1, 1) := by decide +kernel
theorem dX8_usesOfAll_19 : decode cX8_usesOfAll 19 = .ok (.iaload, 1) := by decide +kernel
theorem dX8_usesOfAll_20 : decode cX8_usesOfAll 20 = .ok (.istore 4, 2) := by decide +kernel
theorem dX8_usesOfAll_22 : decode cX8_usesOfAll 22 = .ok (.iload 4, 2) := by decide +kernel
theorem dX8_usesOfAll_24 : decode cX8_usesOfAll 24 = .ok (.iconst (-1), 1) := by decide +kernel
theorem dX8_usesOfAll_25 : decode cX8_usesOfAll 25 = .ok (.if_icmp .ne 7, 3) := by decide +kernel
theorem dX8_usesOfAll_28 : decode cX8_usesOfAll 28 = .ok (.iload_n 3, 1) := by decide +kernel
theorem dX8_usesOfAll_29 : decode cX8_usesOfAll 29 = .ok (.goto 16, 3) := by decide +kernel
theorem dX8_usesOfAll_32 : decode cX8_usesOfAll 32 = .ok (.iload_n 3, 1) := by decide +kernel
theorem dX8_usesOfAll_33 : decode cX8_usesOfAll 33 = .ok (.aload_n 0, 1) := by decide +kernel
theorem dX8_usesOfAll_34 : decode cX8_usesOfAll 34 = .ok (.getfield 16, 3) := by decide +kernel
theorem dX8_usesOfAll_37 : decode cX8_usesOfAll 37 = .ok (.iload 4, 2) := by decide +kernel
theorem dX8_usesOfAll_39 : decode cX8_usesOfAll 39 = .ok (.iload_n 2, 1) := by decide +kernel
theorem dX8_usesOfAll_40 : decode cX8_usesOfAll 40 = .ok (.invokestatic 45, 3) := by decide +kernel
theorem dX8_usesOfAll_43 : decode cX8_usesOfAll 43 = .ok (.iaload, 1) := by decide +kernel
theorem dX8_usesOfAll_44 : decode cX8_usesOfAll 44 = .ok (.iadd, 1) := by decide +kernel
theorem dX8_usesOfAll_45 : decode cX8_usesOfAll 45 = .ok (.ireturn, 1) := by decide +kernel
theorem dX8_meantAbove_0 : decode cX8_meantAbove 0 = .ok (.iconst 1, 1) := by decide +kernel
theorem dX8_meantAbove_1 : decode cX8_meantAbove 1 = .ok (.aload_n 0, 1) := by decide +kernel
theorem dX8_meantAbove_2 : decode cX8_meantAbove 2 = .ok (.iload_n 1, 1) := by decide +kernel
theorem dX8_meantAbove_3 : decode cX8_meantAbove 3 = .ok (.iload_n 2, 1) := by decide +kernel
theorem dX8_meantAbove_4 : decode cX8_meantAbove 4 = .ok (.iload_n 3, 1) := by decide +kernel
theorem dX8_meantAbove_5 : decode cX8_meantAbove 5 = .ok (.invokevirtual 62, 3) := by decide +kernel
theorem dX8_meantAbove_8 : decode cX8_meantAbove 8 = .ok (.iadd, 1) := by decide +kernel
theorem dX8_meantAbove_9 : decode cX8_meantAbove 9 = .ok (.i2l, 1) := by decide +kernel
theorem dX8_meantAbove_10 : decode cX8_meantAbove 10 = .ok (.lreturn, 1) := by decide +kernel
theorem dX8_meantBelow_0 : decode cX8_meantBelow 0 = .ok (.aload_n 0, 1) := by decide +kernel
theorem dX8_meantBelow_1 : decode cX8_meantBelow 1 = .ok (.getfield 20, 3) := by decide +kernel
theorem dX8_meantBelow_4 : decode cX8_meantBelow 4 = .ok (.getfield 66, 3) := by decide +kernel
theorem dX8_meantBelow_7 : decode cX8_meantBelow 7 = .ok (.aload_n 0, 1) := by decide +kernel
theorem dX8_meantBelow_8 : decode cX8_meantBelow 8 = .ok (.iload_n 1, 1) := by decide +kernel
theorem dX8_meantBelow_9 : decode cX8_meantBelow 9 = .ok (.iload_n 2, 1) := by decide +kernel
theorem dX8_meantBelow_10 : decode cX8_meantBelow 10 = .ok (.invokevirtual 69, 3) := by decide +kernel
theorem dX8_meantBelow_13 : decode cX8_meantBelow 13 = .ok (.iadd, 1) := by decide +kernel
theorem dX8_meantBelow_14 : decode cX8_meantBelow 14 = .ok (.i2l, 1) := by decide +kernel
theorem dX8_meantBelow_15 : decode cX8_meantBelow 15 = .ok (.lreturn, 1) := by decide +kernel
theorem dX9_init_0 : decode cX9_init 0 = .ok (.aload_n 0, 1) := by decide +kernel
theorem dX9_init_1 : decode cX9_init 1 = .ok (.invokespecial 3, 3) := by decide +kernel
theorem dX9_init_4 : decode cX9_init 4 = .ok (.aload_n 0, 1) := by decide +kernel
theorem dX9_init_5 : decode cX9_init 5 = .ok (.bipush 10, 2) := by decide +kernel
theorem dX9_init_7 : decode cX9_init 7 = .ok (.newarray .int, 2) := by decide +kernel
theorem dX9_init_9 : decode cX9_init 9 = .ok (.putfield 9, 3) := by decide +kernel
theorem dX9_init_12 : decode cX9_init 12 = .ok (.aload_n 0, 1) := by decide +kernel
theorem dX9_init_13 : decode cX9_init 13 = .ok (.bipush 10, 2) := by decide +kernel
theorem dX9_init_15 : decode cX9_init 15 = .ok (.newarray .int, 2) := by decide +kernel
theorem dX9_init_17 : decode cX9_init 17 = .ok (.putfield 15, 3) := by decide +kernel
theorem dX9_init_20 : decode cX9_init 20 = .ok (.aload_n 0, 1) := by decide +kernel
theorem dX9_init_21 : decode cX9_init 21 = .ok (.aload_n 1, 1) := by decide +kernel
theorem dX9_init_22 : decode cX9_init 22 = .ok (.putfield 18, 3) := by decide +kernel
theorem dX9_init_25 : decode cX9_init 25 = .ok (.return_, 1) := by decide +kernel
theorem dX9_take_0 : decode cX9_take 0 = .ok (.aload_n 1, 1) := by decide +kernel
theorem dX9_take_1 : decode cX9_take 1 = .ok (.iconst 0, 1) := by decide +kernel
theorem dX9_take_2 : decode cX9_take 2 = .ok (.invokestatic 22, 3) := by decide +kernel
theorem dX9_take_5 : decode cX9_take 5 = .ok (.iconst 0, 1) := by decide +kernel
theorem dX9_take_6 : decode cX9_take 6 = .ok (.istore 4, 2) := by decide +kernel
theorem dX9_take_8 : decode cX9_take 8 = .ok (.iload 4, 2) := by decide +kernel
theorem dX9_take_10 : decode cX9_take 10 = .ok (.aload_n 0, 1) := by decide +kernel
theorem dX9_take_11 : decode cX9_take 11 = .ok (.getfield 18, 3) := by decide +kernel
theorem dX9_take_14 : decode cX9_take 14 = .ok (.getfield 28, 3) := by decide +kernel
theorem dX9_take_17 : decode cX9_take 17 = .ok (.if_icmp .ge 61, 3) := by decide +kernel
theorem dX9_take_20 : decode cX9_take 20 = .ok (.iload_n 3, 1) := by decide +kernel
theorem dX9_take_21 : decode cX9_take 21 = .ok (.iconst (-1), 1) := by decide +kernel
theorem dX9_take_22 : decode cX9_take 22 = .ok (.if_icmp .eq 17, 3) := by decide +kernel
theorem dX9_take_25 : decode cX9_take 25 = .ok (.aload_n 0, 1) := by decide +kernel
theorem dX9_take_26 : decode cX9_take 26 = .ok (.getfield 18, 3) := by decide +kernel
theorem dX9_take_29 : decode cX9_take 29 = .ok (.getfield 34, 3) := by decide +kernel
theorem dX9_take_32 : decode cX9_take 32 = .ok (.iload 4, 2) := by decide +kernel
theorem dX9_take_34 : decode cX9_take 34 = .ok (.iaload, 1) := by decide +kernel
theorem dX9_take_35 : decode cX9_take 35 = .ok (.iload_n 3, 1) := by decide +kernel
theorem dX9_take_36 : decode cX9_take 36 = .ok (.if_icmp .ne 7, 3) := by decide +kernel
theorem dX9_take_39 : decode cX9_take 39 = .ok (.iconst 1, 1) := by decide +kernel
theorem dX9_take_40 : decode cX9_take 40 = .ok (.goto 4, 3) := by decide +kernel
theorem dX9_take_43 : decode cX9_take 43 = .ok (.iconst 0, 1) := by decide +kernel
theorem dX9_take_44 : decode cX9_take 44 = .ok (.istore 5, 2) := by decide +kernel
theorem dX9_take_46 : decode cX9_take 46 = .ok (.iload 5, 2) := by decide +kernel
theorem dX9_take_48 : decode cX9_take 48 = .ok (.ifCond .eq 24, 3) := by decide +kernel
theorem dX9_take_51 : decode cX9_take 51 = .ok (.aload_n 0, 1) := by decide +kernel
theorem dX9_take_52 : decode cX9_take 52 = .ok (.getfield 18, 3) := by decide +kernel
theorem dX9_take_55 : decode cX9_take 55 = .ok (.getfield 37, 3) := by decide +kernel
theorem dX9_take_58 : decode cX9_take 58 = .ok (.iload 4, 2) := by decide +kernel
theorem dX9_take_60 : decode cX9_take 60 = .ok (.iaload, 1) := by decide +kernel
theorem dX9_take_61 : decode cX9_take 61 = .ok (.iload_n 2, 1) := by decide +kernel
theorem dX9_take_62 : decode cX9_take 62 = .ok (.if_icmp .ne 10, 3) := by decide +kernel
theorem dX9_take_65 : decode cX9_take 65 = .ok (.aload_n 0, 1) := by decide +kernel
theorem dX9_take_66 : decode cX9_take 66 = .ok (.aload_n 1, 1) := by decide +kernel
theorem dX9_take_67 : decode cX9_take 67 = .ok (.iload 4, 2) := by decide +kernel
theorem dX9_take_69 : decode cX9_take 69 = .ok (.invokevirtual 40, 3) := by decide +kernel
theorem dX9_take_72 : decode cX9_take 72 = .ok (.iinc 4 1, 3) := by decide +kernel
theorem dX9_take_75 : decode cX9_take 75 = .ok (.goto (-67), 3) := by decide +kernel
theorem dX9_take_78 : decode cX9_take 78 = .ok (.return_, 1) := by decide +kernel
theorem dX9_takeLetter_0 : decode cX9_takeLetter 0 = .ok (.iconst 0, 1) := by decide +kernel
theorem dX9_takeLetter_1 : decode cX9_takeLetter 1 = .ok (.istore_n 3, 1) := by decide +kernel
theorem dX9_takeLetter_2 : decode cX9_takeLetter 2 = .ok (.iload_n 3, 1) := by decide +kernel
theorem dX9_takeLetter_3 : decode cX9_takeLetter 3 = .ok (.aload_n 0, 1) := by decide +kernel
theorem dX9_takeLetter_4 : decode cX9_takeLetter 4 = .ok (.getfield 18, 3) := by decide +kernel
theorem dX9_takeLetter_7 : decode cX9_takeLetter 7 = .ok (.getfield 43, 3) := by decide +kernel
theorem dX9_takeLetter_10 : decode cX9_takeLetter 10 = .ok (.iload_n 2, 1) := by decide +kernel
theorem dX9_takeLetter_11 : decode cX9_takeLetter 11 = .ok (.iaload, 1) := by decide +kernel
theorem dX9_takeLetter_12 : decode cX9_takeLetter 12 = .ok (.if_icmp .ge 34, 3) := by decide +kernel
theorem dX9_takeLetter_15 : decode cX9_takeLetter 15 = .ok (.aload_n 1, 1) := by decide +kernel
theorem dX9_takeLetter_16 : decode cX9_takeLetter 16 = .ok (.aload_n 0, 1) := by decide +kernel
theorem dX9_takeLetter_17 : decode cX9_takeLetter 17 = .ok (.getfield 18, 3) := by decide +kernel
theorem dX9_takeLetter_20 : decode cX9_takeLetter 20 = .ok (.getfield 46, 3) := by decide +kernel
theorem dX9_takeLetter_23 : decode cX9_takeLetter 23 = .ok (.aload_n 0, 1) := by decide +kernel
theorem dX9_takeLetter_24 : decode cX9_takeLetter 24 = .ok (.getfield 18, 3) := by decide +kernel
theorem dX9_takeLetter_27 : decode cX9_takeLetter 27 = .ok (.getfield 49, 3) := by decide +kernel
theorem dX9_takeLetter_30 : decode cX9_takeLetter 30 = .ok (.iload_n 2, 1) := by decide +kernel
theorem dX9_takeLetter_31 : decode cX9_takeLetter 31 = .ok (.aaload, 1) := by decide +kernel
theorem dX9_takeLetter_32 : decode cX9_takeLetter 32 = .ok (.iload_n 3, 1) := by decide +kernel
theorem dX9_takeLetter_33 : decode cX9_takeLetter 33 = .ok (.iaload, 1) := by decide +kernel
theorem dX9_takeLetter_34 : decode cX9_takeLetter 34 = .ok (.iaload, 1) := by decide +kernel
theorem dX9_takeLetter_35 : decode cX9_takeLetter 35 = .ok (.dup2, 1) := by decide +kernel
theorem dX9_takeLetter_36 : decode cX9_takeLetter 36 = .ok (.iaload, 1) := by decide +kernel
theorem dX9_takeLetter_37 : decode cX9_takeLetter 37 = .ok (.iconst 1, 1) := by decide +kernel
theorem dX9_takeLetter_38 : decode cX9_takeLetter 38 = .ok (.iadd, 1) := by decide +kernel
theorem dX9_takeLetter_39 : decode cX9_takeLetter 39 = .ok (.iastore, 1) := by decide +kernel
theorem dX9_takeLetter_40 : decode cX9_takeLetter 40 = .ok (.iinc 3 1, 3) := by decide +kernel
theorem dX9_takeLetter_43 : decode cX9_takeLetter 43 = .ok (.goto (-41), 3) := by decide +kernel
theorem dX9_takeLetter_46 : decode cX9_takeLetter 46 = .ok (.return_, 1) := by decide +kernel
theorem dX9_wordsUpTo_0 : decode cX9_wordsUpTo 0 = .ok (.iconst 0, 1) := by decide +kernel
theorem dX9_wordsUpTo_1 : decode cX9_wordsUpTo 1 = .ok (.istore_n 3, 1) := by decide +kernel
theorem dX9_wordsUpTo_2 : decode cX9_wordsUpTo 2 = .ok (.iconst 0, 1) := by decide +kernel
theorem dX9_wordsUpTo_3 : decode cX9_wordsUpTo 3 = .ok (.istore 4, 2) := by decide +kernel
theorem dX9_wordsUpTo_5 : decode cX9_wordsUpTo 5 = .ok (.iload 4, 2) := by decide +kernel
theorem dX9_wordsUpTo_7 : decode cX9_wordsUpTo 7 = .ok (.iload_n 2, 1) := by decide +kernel
theorem dX9_wordsUpTo_8 : decode cX9_wordsUpTo 8 = .ok (.if_icmp .gt 23, 3) := by decide +kernel
theorem dX9_wordsUpTo_11 : decode cX9_wordsUpTo 11 = .ok (.iload 4, 2) := by decide +kernel
theorem dX9_wordsUpTo_13 : decode cX9_wordsUpTo 13 = .ok (.aload_n 1, 1) := by decide +kernel
theorem dX9_wordsUpTo_14 : decode cX9_wordsUpTo 14 = .ok (.arraylength, 1) := by decide +kernel
theorem dX9_wordsUpTo_15 : decode cX9_wordsUpTo 15 = .ok (.if_icmp .ge 16, 3) := by decide +kernel
theorem dX9_wordsUpTo_18 : decode cX9_wordsUpTo 18 = .ok (.iload_n 3, 1) := by decide +kernel
theorem dX9_wordsUpTo_19 : decode cX9_wordsUpTo 19 = .ok (.aload_n 1, 1) := by decide +kernel
theorem dX9_wordsUpTo_20 : decode cX9_wordsUpTo 20 = .ok (.iload 4, 2) := by decide +kernel
theorem dX9_wordsUpTo_22 : decode cX9_wordsUpTo 22 = .ok (.iaload, 1) := by decide +kernel
theorem dX9_wordsUpTo_23 : decode cX9_wordsUpTo 23 = .ok (.iadd, 1) := by decide +kernel
theorem dX9_wordsUpTo_24 : decode cX9_wordsUpTo 24 = .ok (.istore_n 3, 1) := by decide +kernel
theorem dX9_wordsUpTo_25 : decode cX9_wordsUpTo 25 = .ok (.iinc 4 1, 3) := by decide +kernel
theorem dX9_wordsUpTo_28 : decode cX9_wordsUpTo 28 = .ok (.goto (-23), 3) := by decide +kernel
theorem dX9_wordsUpTo_31 : decode cX9_wordsUpTo 31 = .ok (.iload_n 3, 1) := by decide +kernel
theorem dX9_wordsUpTo_32 : decode cX9_wordsUpTo 32 = .ok (.ireturn, 1) := by decide +kernel
theorem dX9_sumOfRanks_0 : decode cX9_sumOfRanks 0 = .ok (.iconst 0, 1) := by decide +kernel
theorem dX9_sumOfRanks_1 : decode cX9_sumOfRanks 1 = .ok (.istore_n 2, 1) := by decide +kernel
theorem dX9_sumOfRanks_2 : decode cX9_sumOfRanks 2 = .ok (.iconst 0, 1) := by decide +kernel
theorem dX9_sumOfRanks_3 : decode cX9_sumOfRanks 3 = .ok (.istore_n 3, 1) := by decide +kernel
theorem dX9_sumOfRanks_4 : decode cX9_sumOfRanks 4 = .ok (.iload_n 3, 1) := by decide +kernel
theorem dX9_sumOfRanks_5 : decode cX9_sumOfRanks 5 = .ok (.aload_n 1, 1) := by decide +kernel
theorem dX9_sumOfRanks_6 : decode cX9_sumOfRanks 6 = .ok (.arraylength, 1) := by decide +kernel
theorem dX9_sumOfRanks_7 : decode cX9_sumOfRanks 7 = .ok (.if_icmp .ge 17, 3) := by decide +kernel
theorem dX9_sumOfRanks_10 : decode cX9_sumOfRanks 10 = .ok (.iload_n 2, 1) := by decide +kernel
theorem dX9_sumOfRanks_11 : decode cX9_sumOfRanks 11 = .ok (.iload_n 3, 1) := by decide +kernel
theorem dX9_sumOfRanks_12 : decode cX9_sumOfRanks 12 = .ok (.aload_n 1, 1) := by decide +kernel
theorem dX9_sumOfRanks_13 : decode cX9_sumOfRanks 13 = .ok (.iload_n 3, 1) := by decide +kernel
theorem dX9_sumOfRanks_14 : decode cX9_sumOfRanks 14 = .ok (.iaload, 1) := by decide +kernel
theorem dX9_sumOfRanks_15 : decode cX9_sumOfRanks 15 = .ok (.imul, 1) := by decide +kernel
theorem dX9_sumOfRanks_16 : decode cX9_sumOfRanks 16 = .ok (.iadd, 1) := by decide +kernel
theorem dX9_sumOfRanks_17 : decode cX9_sumOfRanks 17 = .ok (.istore_n 2, 1) := by decide +kernel
theorem dX9_sumOfRanks_18 : decode cX9_sumOfRanks 18 = .ok (.iinc 3 1, 3) := by decide +kernel
theorem dX9_sumOfRanks_21 : decode cX9_sumOfRanks 21 = .ok (.goto (-17), 3) := by decide +kernel
theorem dX9_sumOfRanks_24 : decode cX9_sumOfRanks 24 = .ok (.iload_n 2, 1) := by decide +kernel
theorem dX9_sumOfRanks_25 : decode cX9_sumOfRanks 25 = .ok (.ireturn, 1) := by decide +kernel
theorem dX9_rankInSecond_0 : decode cX9_rankInSecond 0 = .ok (.aload_n 0, 1) := by decide +kernel
theorem dX9_rankInSecond_1 : decode cX9_rankInSecond 1 = .ok (.aload_n 0, 1) := by decide +kernel
theorem dX9_rankInSecond_2 : decode cX9_rankInSecond 2 = .ok (.getfield 9, 3) := by decide +kernel
theorem dX9_rankInSecond_5 : decode cX9_rankInSecond 5 = .ok (.iload_n 1, 1) := by decide +kernel
theorem dX9_rankInSecond_6 : decode cX9_rankInSecond 6 = .ok (.invokevirtual 53, 3) := by decide +kernel
theorem dX9_rankInSecond_9 : decode cX9_rankInSecond 9 = .ok (.istore_n 2, 1) := by decide +kernel
theorem dX9_rankInSecond_10 : decode cX9_rankInSecond 10 = .ok (.aload_n 0, 1) := by decide +kernel
theorem dX9_rankInSecond_11 : decode cX9_rankInSecond 11 = .ok (.aload_n 0, 1) := by decide +kernel
theorem dX9_rankInSecond_12 : decode cX9_rankInSecond 12 = .ok (.getfield 9, 3) := by decide +kernel
theorem dX9_rankInSecond_15 : decode cX9_rankInSecond 15 = .ok (.bipush 9, 2) := by decide +kernel
theorem dX9_rankInSecond_17 : decode cX9_rankInSecond 17 = .ok (.invokevirtual 53, 3) := by decide +kernel
theorem dX9_rankInSecond_20 : decode cX9_rankInSecond 20 = .ok (.istore_n 3, 1) := by decide +kernel
theorem dX9_rankInSecond_21 : decode cX9_rankInSecond 21 = .ok (.aload_n 0, 1) := by decide +kernel
theorem dX9_rankInSecond_22 : decode cX9_rankInSecond 22 = .ok (.aload_n 0, 1) := by decide +kernel
theorem dX9_rankInSecond_23 : decode cX9_rankInSecond 23 = .ok (.getfield 15, 3) := by decide +kernel
theorem dX9_rankInSecond_26 : decode cX9_rankInSecond 26 = .ok (.bipush 9, 2) := by decide +kernel
theorem dX9_rankInSecond_28 : decode cX9_rankInSecond 28 = .ok (.invokevirtual 53, 3) := by decide +kernel
theorem dX9_rankInSecond_31 : decode cX9_rankInSecond 31 = .ok (.istore 4, 2) := by decide +kernel
theorem dX9_rankInSecond_33 : decode cX9_rankInSecond 33 = .ok (.iconst 0, 1) := by decide +kernel
theorem dX9_rankInSecond_34 : decode cX9_rankInSecond 34 = .ok (.istore 5, 2) := by decide +kernel
theorem dX9_rankInSecond_36 : decode cX9_rankInSecond 36 = .ok (.iload 5, 2) := by decide +kernel
theorem dX9_rankInSecond_38 : decode cX9_rankInSecond 38 = .ok (.bipush 9, 2) := by decide +kernel
theorem dX9_rankInSecond_40 : decode cX9_rankInSecond 40 = .ok (.if_icmp .ge 28, 3) := by decide +kernel
theorem dX9_rankInSecond_43 : decode cX9_rankInSecond 43 = .ok (.aload_n 0, 1) := by decide +kernel
theorem dX9_rankInSecond_44 : decode cX9_rankInSecond 44 = .ok (.aload_n 0, 1) := by decide +kernel
theorem dX9_rankInSecond_45 : decode cX9_rankInSecond 45 = .ok (.getfield 15, 3) := by decide +kernel
theorem dX9_rankInSecond_48 : decode cX9_rankInSecond 48 = .ok (.iload 5, 2) := by decide +kernel
theorem dX9_rankInSecond_50 : decode cX9_rankInSecond 50 = .ok (.invokevirtual 53, 3) := by decide +kernel
theorem dX9_rankInSecond_53 : decode cX9_rankInSecond 53 = .ok (.iload_n 3, 1) := by decide +kernel
theorem dX9_rankInSecond_54 : decode cX9_rankInSecond 54 = .ok (.imul, 1) := by decide +kernel
theorem dX9_rankInSecond_55 : decode cX9_rankInSecond 55 = .ok (.iload_n 2, 1) := by decide +kernel
theorem dX9_rankInSecond_56 : decode cX9_rankInSecond 56 = .ok (.iload 4, 2) := by decide +kernel
theorem dX9_rankInSecond_58 : decode cX9_rankInSecond 58 = .ok (.imul, 1) := by decide +kernel
theorem dX9_rankInSecond_59 : decode cX9_rankInSecond 59 = .ok (.if_icmp .ge 9, 3) := by decide +kernel
theorem dX9_rankInSecond_62 : decode cX9_rankInSecond 62 = .ok (.iinc 5 1, 3) := by decide +kernel
theorem dX9_rankInSecond_65 : decode cX9_rankInSecond 65 = .ok (.goto (-29), 3) := by decide +kernel
theorem dX9_rankInSecond_68 : decode cX9_rankInSecond 68 = .ok (.iload 5, 2) := by decide +kernel
theorem dX9_rankInSecond_70 : decode cX9_rankInSecond 70 = .ok (.ireturn, 1) := by decide +kernel
theorem dX10_init_0 : decode cX10_init 0 = .ok (.aload_n 0, 1) := by decide +kernel
theorem dX10_init_1 : decode cX10_init 1 = .ok (.invokespecial 1, 3) := by decide +kernel
theorem dX10_init_4 : decode cX10_init 4 = .ok (.aload_n 0, 1) := by decide +kernel
theorem dX10_init_5 : decode cX10_init 5 = .ok (.new 7, 3) := by decide +kernel
theorem dX10_init_8 : decode cX10_init 8 = .ok (.dup, 1) := by decide +kernel
theorem dX10_init_9 : decode cX10_init 9 = .ok (.invokespecial 9, 3) := by decide +kernel
theorem dX10_init_12 : decode cX10_init 12 = .ok (.putfield 10, 3) := by decide +kernel
theorem dX10_init_15 : decode cX10_init 15 = .ok (.aload_n 0, 1) := by decide +kernel
theorem dX10_init_16 : decode cX10_init 16 = .ok (.new 16, 3) := by decide +kernel
theorem dX10_init_19 : decode cX10_init 19 = .ok (.dup, 1) := by decide +kernel
theorem dX10_init_20 : decode cX10_init 20 = .ok (.aload_n 0, 1) := by decide +kernel
theorem dX10_init_21 : decode cX10_init 21 = .ok (.getfield 10, 3) := by decide +kernel
theorem dX10_init_24 : decode cX10_init 24 = .ok (.invokespecial 18, 3) := by decide +kernel
theorem dX10_init_27 : decode cX10_init 27 = .ok (.putfield 21, 3) := by decide +kernel
theorem dX10_init_30 : decode cX10_init 30 = .ok (.aload_n 0, 1) := by decide +kernel
theorem dX10_init_31 : decode cX10_init 31 = .ok (.iconst 4, 1) := by decide +kernel
theorem dX10_init_32 : decode cX10_init 32 = .ok (.newarray .int, 2) := by decide +kernel
theorem dX10_init_34 : decode cX10_init 34 = .ok (.putfield 25, 3) := by decide +kernel
theorem dX10_init_37 : decode cX10_init 37 = .ok (.aload_n 0, 1) := by decide +kernel
theorem dX10_init_38 : decode cX10_init 38 = .ok (.getfield 25, 3) := by decide +kernel
theorem dX10_init_41 : decode cX10_init 41 = .ok (.iconst 1, 1) := by decide +kernel
theorem dX10_init_42 : decode cX10_init 42 = .ok (.invokestatic 29, 3) := by decide +kernel
theorem dX10_init_45 : decode cX10_init 45 = .ok (.aload_n 0, 1) := by decide +kernel
theorem dX10_init_46 : decode cX10_init 46 = .ok (.new 35, 3) := by decide +kernel
theorem dX10_init_49 : decode cX10_init 49 = .ok (.dup, 1) := by decide +kernel
theorem dX10_init_50 : decode cX10_init 50 = .ok (.aload_n 0, 1) := by decide +kernel
theorem dX10_init_51 : decode cX10_init 51 = .ok (.getfield 10, 3) := by decide +kernel
theorem dX10_init_54 : decode cX10_init 54 = .ok (.aload_n 0, 1) := by decide +kernel
theorem dX10_init_55 : decode cX10_init 55 = .ok (.getfield 21, 3) := by decide +kernel
theorem dX10_init_58 : decode cX10_init 58 = .ok (.aload_n 0, 1) := by decide +kernel
theorem dX10_init_59 : decode cX10_init 59 = .ok (.getfield 25, 3) := by decide +kernel
theorem dX10_init_62 : decode cX10_init 62 = .ok (.invokespecial 37, 3) := by decide +kernel
theorem dX10_init_65 : decode cX10_init 65 = .ok (.putfield 40, 3) := by decide +kernel
theorem dX10_init_68 : decode cX10_init 68 = .ok (.aload_n 0, 1) := by decide +kernel
theorem dX10_init_69 : decode cX10_init 69 = .ok (.new 44, 3) := by decide +kernel
theorem dX10_init_72 : decode cX10_init 72 = .ok (.dup, 1) := by decide +kernel
theorem dX10_init_73 : decode cX10_init 73 = .ok (.aload_n 0, 1) := by decide +kernel
theorem dX10_init_74 : decode cX10_init 74 = .ok (.getfield 10, 3) := by decide +kernel
theorem dX10_init_77 : decode cX10_init 77 = .ok (.invokespecial 46, 3) := by decide +kernel
theorem dX10_init_80 : decode cX10_init 80 = .ok (.putfield 47, 3) := by decide +kernel
theorem dX10_init_83 : decode cX10_init 83 = .ok (.aload_n 0, 1) := by decide +kernel
theorem dX10_init_84 : decode cX10_init 84 = .ok (.new 51, 3) := by decide +kernel
theorem dX10_init_87 : decode cX10_init 87 = .ok (.dup, 1) := by decide +kernel
theorem dX10_init_88 : decode cX10_init 88 = .ok (.aload_n 0, 1) := by decide +kernel
theorem dX10_init_89 : decode cX10_init 89 = .ok (.getfield 10, 3) := by decide +kernel
theorem dX10_init_92 : decode cX10_init 92 = .ok (.invokespecial 53, 3) := by decide +kernel
theorem dX10_init_95 : decode cX10_init 95 = .ok (.putfield 54, 3) := by decide +kernel
theorem dX10_init_98 : decode cX10_init 98 = .ok (.aload_n 0, 1) := by decide +kernel
theorem dX10_init_99 : decode cX10_init 99 = .ok (.new 58, 3) := by decide +kernel
theorem dX10_init_102 : decode cX10_init 102 = .ok (.dup, 1) := by decide +kernel
theorem dX10_init_103 : decode cX10_init 103 = .ok (.invokespecial 60, 3) := by decide +kernel
theorem dX10_init_106 : decode cX10_init 106 = .ok (.putfield 61, 3) := by decide +kernel
theorem dX10_init_109 : decode cX10_init 109 = .ok (.aload_n 0, 1) := by decide +kernel
theorem dX10_init_110 : decode cX10_init 110 = .ok (.new 65, 3) := by decide +kernel
theorem dX10_init_113 : decode cX10_init 113 = .ok (.dup, 1) := by decide +kernel
theorem dX10_init_114 : decode cX10_init 114 = .ok (.aload_n 0, 1) := by decide +kernel
theorem dX10_init_115 : decode cX10_init 115 = .ok (.getfield 10, 3) := by decide +kernel
theorem dX10_init_118 : decode cX10_init 118 = .ok (.invokespecial 67, 3) := by decide +kernel
theorem dX10_init_121 : decode cX10_init 121 = .ok (.putfield 68, 3) := by decide +kernel
theorem dX10_init_124 : decode cX10_init 124 = .ok (.aload_n 0, 1) := by decide +kernel
theorem dX10_init_125 : decode cX10_init 125 = .ok (.new 72, 3) := by decide +kernel
theorem dX10_init_128 : decode cX10_init 128 = .ok (.dup, 1) := by decide +kernel
theorem dX10_init_129 : decode cX10_init 129 = .ok (.aload_n 0, 1) := by decide +kernel
theorem dX10_init_130 : decode cX10_init 130 = .ok (.getfield 25, 3) := by decide +kernel
theorem dX10_init_133 : decode cX10_init 133 = .ok (.invokespecial 74, 3) := by decide +kernel
theorem dX10_init_136 : decode cX10_init 136 = .ok (.putfield 77, 3) := by decide +kernel
theorem dX10_init_139 : decode cX10_init 139 = .ok (.aload_n 0, 1) := by decide +kernel
theorem dX10_init_140 : decode cX10_init 140 = .ok (.new 81, 3) := by decide +kernel
theorem dX10_init_143 : decode cX10_init 143 = .ok (.dup, 1) := by decide +kernel
theorem dX10_init_144 : decode cX10_init 144 = .ok (.invokespecial 83, 3) := by decide +kernel
theorem dX10_init_147 : decode cX10_init 147 = .ok (.putfield 84, 3) := by decide +kernel
theorem dX10_init_150 : decode cX10_init 150 = .ok (.return_, 1) := by decide +kernel
theorem dX10_word_0 : decode cX10_word 0 = .ok (.iload_n 1, 1) := by decide +kernel
theorem dX10_word_1 : decode cX10_word 1 = .ok (.invokestatic 88, 3) := by decide +kernel
theorem dX10_word_4 : decode cX10_word 4 = .ok (.ifCond .eq 12, 3) := by decide +kernel
theorem dX10_word_7 : decode cX10_word 7 = .ok (.iload_n 2, 1) := by decide +kernel
theorem dX10_word_8 : decode cX10_word 8 = .ok (.iconst 0, 1) := by decide +kernel
theorem dX10_word_9 : decode cX10_word 9 = .ok (.iconst 2, 1) := by decide +kernel
theorem dX10_word_10 : decode cX10_word 10 = .ok (.invokestatic 92, 3) := by decide +kernel
theorem dX10_word_13 : decode cX10_word 13 = .ok (.ifCond .ne 6, 3) := by decide +kernel
theorem dX10_word_16 : decode cX10_word 16 = .ok (.bipush (-2), 2) := by decide +kernel
theorem dX10_word_18 : decode cX10_word 18 = .ok (.ireturn, 1) := by decide +kernel
theorem dX10_word_19 : decode cX10_word 19 = .ok (.aload_n 0, 1) := by decide +kernel
theorem dX10_word_20 : decode cX10_word 20 = .ok (.getfield 10, 3) := by decide +kernel
theorem dX10_word_23 : decode cX10_word 23 = .ok (.iload_n 1, 1) := by decide +kernel
theorem dX10_word_24 : decode cX10_word 24 = .ok (.iload_n 2, 1) := by decide +kernel
theorem dX10_word_25 : decode cX10_word 25 = .ok (.invokevirtual 96, 3) := by decide +kernel
theorem dX10_word_28 : decode cX10_word 28 = .ok (.ireturn, 1) := by decide +kernel
theorem dX10_hand_0 : decode cX10_hand 0 = .ok (.iload_n 1, 1) := by decide +kernel
theorem dX10_hand_1 : decode cX10_hand 1 = .ok (.iconst (-1), 1) := by decide +kernel
theorem dX10_hand_2 : decode cX10_hand 2 = .ok (.if_icmp .eq 14, 3) := by decide +kernel
theorem dX10_hand_5 : decode cX10_hand 5 = .ok (.aload_n 0, 1) := by decide +kernel
theorem dX10_hand_6 : decode cX10_hand 6 = .ok (.iload_n 1, 1) := by decide +kernel
theorem dX10_hand_7 : decode cX10_hand 7 = .ok (.invokevirtual 100, 3) := by decide +kernel
theorem dX10_hand_10 : decode cX10_hand 10 = .ok (.ifCond .ne 6, 3) := by decide +kernel
theorem dX10_hand_13 : decode cX10_hand 13 = .ok (.bipush (-2), 2) := by decide +kernel
theorem dX10_hand_15 : decode cX10_hand 15 = .ok (.ireturn, 1) := by decide +kernel
theorem dX10_hand_16 : decode cX10_hand 16 = .ok (.aload_n 0, 1) := by decide +kernel
theorem dX10_hand_17 : decode cX10_hand 17 = .ok (.getfield 10, 3) := by decide +kernel
theorem dX10_hand_20 : decode cX10_hand 20 = .ok (.iload_n 1, 1) := by decide +kernel
theorem dX10_hand_21 : decode cX10_hand 21 = .ok (.invokevirtual 103, 3) := by decide +kernel
theorem dX10_hand_24 : decode cX10_hand 24 = .ok (.ireturn, 1) := by decide +kernel
theorem dX10_pupil_0 : decode cX10_pupil 0 = .ok (.iload_n 1, 1) := by decide +kernel
theorem dX10_pupil_1 : decode cX10_pupil 1 = .ok (.iconst 1, 1) := by decide +kernel
theorem dX10_pupil_2 : decode cX10_pupil 2 = .ok (.iconst 2, 1) := by decide +kernel
theorem dX10_pupil_3 : decode cX10_pupil 3 = .ok (.invokestatic 92, 3) := by decide +kernel
theorem dX10_pupil_6 : decode cX10_pupil 6 = .ok (.ifCond .eq 12, 3) := by decide +kernel
theorem dX10_pupil_9 : decode cX10_pupil 9 = .ok (.iload_n 2, 1) := by decide +kernel
theorem dX10_pupil_10 : decode cX10_pupil 10 = .ok (.iconst (-1), 1) := by decide +kernel
theorem dX10_pupil_11 : decode cX10_pupil 11 = .ok (.iconst 3, 1) := by decide +kernel
theorem dX10_pupil_12 : decode cX10_pupil 12 = .ok (.invokestatic 92, 3) := by decide +kernel
theorem dX10_pupil_15 : decode cX10_pupil 15 = .ok (.ifCond .ne 6, 3) := by decide +kernel
theorem dX10_pupil_18 : decode cX10_pupil 18 = .ok (.bipush (-2), 2) := by decide +kernel
theorem dX10_pupil_20 : decode cX10_pupil 20 = .ok (.ireturn, 1) := by decide +kernel
theorem dX10_pupil_21 : decode cX10_pupil 21 = .ok (.aload_n 0, 1) := by decide +kernel
theorem dX10_pupil_22 : decode cX10_pupil 22 = .ok (.getfield 10, 3) := by decide +kernel
theorem dX10_pupil_25 : decode cX10_pupil 25 = .ok (.iload_n 1, 1) := by decide +kernel
theorem dX10_pupil_26 : decode cX10_pupil 26 = .ok (.iload_n 2, 1) := by decide +kernel
theorem dX10_pupil_27 : decode cX10_pupil 27 = .ok (.invokevirtual 107, 3) := by decide +kernel
theorem dX10_pupil_30 : decode cX10_pupil 30 = .ok (.ireturn, 1) := by decide +kernel
theorem dX10_became_0 : decode cX10_became 0 = .ok (.aload_n 0, 1) := by decide +kernel
theorem dX10_became_1 : decode cX10_became 1 = .ok (.iload_n 1, 1) := by decide +kernel
theorem dX10_became_2 : decode cX10_became 2 = .ok (.invokevirtual 110, 3) := by decide +kernel
theorem dX10_became_5 : decode cX10_became 5 = .ok (.ifCond .eq 12, 3) := by decide +kernel
theorem dX10_became_8 : decode cX10_became 8 = .ok (.iload_n 2, 1) := by decide +kernel
theorem dX10_became_9 : decode cX10_became 9 = .ok (.iconst (-1), 1) := by decide +kernel
theorem dX10_became_10 : decode cX10_became 10 = .ok (.iconst 3, 1) := by decide +kernel
theorem dX10_became_11 : decode cX10_became 11 = .ok (.invokestatic 92, 3) := by decide +kernel
theorem dX10_became_14 : decode cX10_became 14 = .ok (.ifCond .ne 6, 3) := by decide +kernel
theorem dX10_became_17 : decode cX10_became 17 = .ok (.bipush (-10), 2) := by decide +kernel
theorem dX10_became_19 : decode cX10_became 19 = .ok (.ireturn, 1) := by decide +kernel
theorem dX10_became_20 : decode cX10_became 20 = .ok (.aload_n 0, 1) := by decide +kernel
theorem dX10_became_21 : decode cX10_became 21 = .ok (.getfield 10, 3) := by decide +kernel
theorem dX10_became_24 : decode cX10_became 24 = .ok (.getfield 113, 3) := by decide +kernel
theorem dX10_became_27 : decode cX10_became 27 = .ok (.iload_n 1, 1) := by decide +kernel
theorem dX10_became_28 : decode cX10_became 28 = .ok (.iaload, 1) := by decide +kernel
theorem dX10_became_29 : decode cX10_became 29 = .ok (.istore_n 3, 1) := by decide +kernel
theorem dX10_became_30 : decode cX10_became 30 = .ok (.aload_n 0, 1) := by decide +kernel
theorem dX10_became_31 : decode cX10_became 31 = .ok (.getfield 10, 3) := by decide +kernel
theorem dX10_became_34 : decode cX10_became 34 = .ok (.getfield 113, 3) := by decide +kernel
theorem dX10_became_37 : decode cX10_became 37 = .ok (.iload_n 1, 1) := by decide +kernel
theorem dX10_became_38 : decode cX10_became 38 = .ok (.iload_n 2, 1) := by decide +kernel
theorem dX10_became_39 : decode cX10_became 39 = .ok (.iastore, 1) := by decide +kernel
theorem dX10_became_40 : decode cX10_became 40 = .ok (.iload_n 3, 1) := by decide +kernel
theorem dX10_became_41 : decode cX10_became 41 = .ok (.ireturn, 1) := by decide +kernel
theorem dX10_letter_0 : decode cX10_letter 0 = .ok (.aload_n 0, 1) := by decide +kernel
theorem dX10_letter_1 : decode cX10_letter 1 = .ok (.iload_n 1, 1) := by decide +kernel
theorem dX10_letter_2 : decode cX10_letter 2 = .ok (.invokevirtual 100, 3) := by decide +kernel
theorem dX10_letter_5 : decode cX10_letter 5 = .ok (.ifCond .eq 18, 3) := by decide +kernel
theorem dX10_letter_8 : decode cX10_letter 8 = .ok (.aload_n 0, 1) := by decide +kernel
theorem dX10_letter_9 : decode cX10_letter 9 = .ok (.iload_n 2, 1) := by decide +kernel
theorem dX10_letter_10 : decode cX10_letter 10 = .ok (.invokevirtual 110, 3) := by decide +kernel
theorem dX10_letter_13 : decode cX10_letter 13 = .ok (.ifCond .eq 10, 3) := by decide +kernel
theorem dX10_letter_16 : decode cX10_letter 16 = .ok (.iload_n 3, 1) := by decide +kernel
theorem dX10_letter_17 : decode cX10_letter 17 = .ok (.invokestatic 116, 3) := by decide +kernel
theorem dX10_letter_20 : decode cX10_letter 20 = .ok (.ifCond .ne 6, 3) := by decide +kernel
theorem dX10_letter_23 : decode cX10_letter 23 = .ok (.bipush (-2), 2) := by decide +kernel
theorem dX10_letter_25 : decode cX10_letter 25 = .ok (.ireturn, 1) := by decide +kernel
theorem dX10_letter_26 : decode cX10_letter 26 = .ok (.aload_n 0, 1) := by decide +kernel
theorem dX10_letter_27 : decode cX10_letter 27 = .ok (.getfield 10, 3) := by decide +kernel
theorem dX10_letter_30 : decode cX10_letter 30 = .ok (.iload_n 1, 1) := by decide +kernel
theorem dX10_letter_31 : decode cX10_letter 31 = .ok (.iload_n 2, 1) := by decide +kernel
theorem dX10_letter_32 : decode cX10_letter 32 = .ok (.iload_n 3, 1) := by decide +kernel
theorem dX10_letter_33 : decode cX10_letter 33 = .ok (.invokevirtual 119, 3) := by decide +kernel
theorem dX10_letter_36 : decode cX10_letter 36 = .ok (.ireturn, 1) := by decide +kernel
theorem dX10_write_0 : decode cX10_write 0 = .ok (.aload_n 0, 1) := by decide +kernel
theorem dX10_write_1 : decode cX10_write 1 = .ok (.iload_n 1, 1) := by decide +kernel
theorem dX10_write_2 : decode cX10_write 2 = .ok (.invokevirtual 123, 3) := by decide +kernel
theorem dX10_write_5 : decode cX10_write 5 = .ok (.ifCond .eq 11, 3) := by decide +kernel
theorem dX10_write_8 : decode cX10_write 8 = .ok (.aload_n 0, 1) := by decide +kernel
theorem dX10_write_9 : decode cX10_write 9 = .ok (.iload_n 2, 1) := by decide +kernel
theorem dX10_write_10 : decode cX10_write 10 = .ok (.invokevirtual 126, 3) := by decide +kernel
theorem dX10_write_13 : decode cX10_write 13 = .ok (.ifCond .ne 6, 3) := by decide +kernel
theorem dX10_write_16 : decode cX10_write 16 = .ok (.bipush (-2), 2) := by decide +kernel
theorem dX10_write_18 : decode cX10_write 18 = .ok (.ireturn, 1) := by decide +kernel
theorem dX10_write_19 : decode cX10_write 19 = .ok (.aload_n 0, 1) := by decide +kernel
theorem dX10_write_20 : decode cX10_write 20 = .ok (.getfield 10, 3) := by decide +kernel
theorem dX10_write_23 : decode cX10_write 23 = .ok (.iload_n 1, 1) := by decide +kernel
theorem dX10_write_24 : decode cX10_write 24 = .ok (.iload_n 2, 1) := by decide +kernel
theorem dX10_write_25 : decode cX10_write 25 = .ok (.invokevirtual 129, 3) := by decide +kernel
theorem dX10_write_28 : decode cX10_write 28 = .ok (.ireturn, 1) := by decide +kernel
theorem dX10_weight_0 : decode cX10_weight 0 = .ok (.iload_n 1, 1) := by decide +kernel
theorem dX10_weight_1 : decode cX10_weight 1 = .ok (.invokestatic 132, 3) := by decide +kernel
theorem dX10_weight_4 : decode cX10_weight 4 = .ok (.ifCond .eq 13, 3) := by decide +kernel
theorem dX10_weight_7 : decode cX10_weight 7 = .ok (.iload_n 2, 1) := by decide +kernel
theorem dX10_weight_8 : decode cX10_weight 8 = .ok (.iconst 1, 1) := by decide +kernel
theorem dX10_weight_9 : decode cX10_weight 9 = .ok (.bipush 9, 2) := by decide +kernel
theorem dX10_weight_11 : decode cX10_weight 11 = .ok (.invokestatic 92, 3) := by decide +kernel
theorem dX10_weight_14 : decode cX10_weight 14 = .ok (.ifCond .ne 6, 3) := by decide +kernel
theorem dX10_weight_17 : decode cX10_weight 17 = .ok (.bipush (-2), 2) := by decide +kernel
theorem dX10_weight_19 : decode cX10_weight 19 = .ok (.ireturn, 1) := by decide +kernel
theorem dX10_weight_20 : decode cX10_weight 20 = .ok (.aload_n 0, 1) := by decide +kernel
theorem dX10_weight_21 : decode cX10_weight 21 = .ok (.getfield 25, 3) := by decide +kernel
theorem dX10_weight_24 : decode cX10_weight 24 = .ok (.iload_n 1, 1) := by decide +kernel
theorem dX10_weight_25 : decode cX10_weight 25 = .ok (.iaload, 1) := by decide +kernel
theorem dX10_weight_26 : decode cX10_weight 26 = .ok (.istore_n 3, 1) := by decide +kernel
theorem dX10_weight_27 : decode cX10_weight 27 = .ok (.aload_n 0, 1) := by decide +kernel
theorem dX10_weight_28 : decode cX10_weight 28 = .ok (.getfield 25, 3) := by decide +kernel
theorem dX10_weight_31 : decode cX10_weight 31 = .ok (.iload_n 1, 1) := by decide +kernel
theorem dX10_weight_32 : decode cX10_weight 32 = .ok (.iload_n 2, 1) := by decide +kernel
theorem dX10_weight_33 : decode cX10_weight 33 = .ok (.iastore, 1) := by decide +kernel
theorem dX10_weight_34 : decode cX10_weight 34 = .ok (.iload_n 3, 1) := by decide +kernel
theorem dX10_weight_35 : decode cX10_weight 35 = .ok (.ireturn, 1) := by decide +kernel
theorem dX10_uses_0 : decode cX10_uses 0 = .ok (.aload_n 0, 1) := by decide +kernel
theorem dX10_uses_1 : decode cX10_uses 1 = .ok (.iload_n 1, 1) := by decide +kernel
theorem dX10_uses_2 : decode cX10_uses 2 = .ok (.invokevirtual 100, 3) := by decide +kernel
theorem dX10_uses_5 : decode cX10_uses 5 = .ok (.ifCond .eq 18, 3) := by decide +kernel
theorem dX10_uses_8 : decode cX10_uses 8 = .ok (.aload_n 0, 1) := by decide +kernel
theorem dX10_uses_9 : decode cX10_uses 9 = .ok (.iload_n 2, 1) := by decide +kernel
theorem dX10_uses_10 : decode cX10_uses 10 = .ok (.invokevirtual 126, 3) := by decide +kernel
theorem dX10_uses_13 : decode cX10_uses 13 = .ok (.ifCond .eq 10, 3) := by decide +kernel
theorem dX10_uses_16 : decode cX10_uses 16 = .ok (.iload_n 3, 1) := by decide +kernel
theorem dX10_uses_17 : decode cX10_uses 17 = .ok (.invokestatic 132, 3) := by decide +kernel
theorem dX10_uses_20 : decode cX10_uses 20 = .ok (.ifCond .ne 6, 3) := by decide +kernel
theorem dX10_uses_23 : decode cX10_uses 23 = .ok (.bipush (-2), 2) := by decide +kernel
theorem dX10_uses_25 : decode cX10_uses 25 = .ok (.ireturn, 1) := by decide +kernel
theorem dX10_uses_26 : decode cX10_uses 26 = .ok (.aload_n 0, 1) := by decide +kernel
theorem dX10_uses_27 : decode cX10_uses 27 = .ok (.getfield 21, 3) := by decide +kernel
theorem dX10_uses_30 : decode cX10_uses 30 = .ok (.iconst (-1), 1) := by decide +kernel
theorem dX10_uses_31 : decode cX10_uses 31 = .ok (.invokevirtual 135, 3) := by decide +kernel
theorem dX10_uses_34 : decode cX10_uses 34 = .ok (.aload_n 0, 1) := by decide +kernel
theorem dX10_uses_35 : decode cX10_uses 35 = .ok (.getfield 21, 3) := by decide +kernel
theorem dX10_uses_38 : decode cX10_uses 38 = .ok (.iload_n 1, 1) := by decide +kernel
theorem dX10_uses_39 : decode cX10_uses 39 = .ok (.iload_n 2, 1) := by decide +kernel
theorem dX10_uses_40 : decode cX10_uses 40 = .ok (.iload_n 3, 1) := by decide +kernel
theorem dX10_uses_41 : decode cX10_uses 41 = .ok (.invokevirtual 139, 3) := by decide +kernel
theorem dX10_uses_44 : decode cX10_uses 44 = .ok (.ireturn, 1) := by decide +kernel
theorem dX10_means_0 : decode cX10_means 0 = .ok (.aload_n 0, 1) := by decide +kernel
theorem dX10_means_1 : decode cX10_means 1 = .ok (.iload_n 1, 1) := by decide +kernel
theorem dX10_means_2 : decode cX10_means 2 = .ok (.invokevirtual 100, 3) := by decide +kernel
theorem dX10_means_5 : decode cX10_means 5 = .ok (.ifCond .eq 18, 3) := by decide +kernel
theorem dX10_means_8 : decode cX10_means 8 = .ok (.aload_n 0, 1) := by decide +kernel
theorem dX10_means_9 : decode cX10_means 9 = .ok (.iload_n 2, 1) := by decide +kernel
theorem dX10_means_10 : decode cX10_means 10 = .ok (.invokevirtual 126, 3) := by decide +kernel
theorem dX10_means_13 : decode cX10_means 13 = .ok (.ifCond .eq 10, 3) := by decide +kernel
theorem dX10_means_16 : decode cX10_means 16 = .ok (.iload_n 3, 1) := by decide +kernel
theorem dX10_means_17 : decode cX10_means 17 = .ok (.invokestatic 132, 3) := by decide +kernel
theorem dX10_means_20 : decode cX10_means 20 = .ok (.ifCond .ne 6, 3) := by decide +kernel
theorem dX10_means_23 : decode cX10_means 23 = .ok (.bipush (-2), 2) := by decide +kernel
theorem dX10_means_25 : decode cX10_means 25 = .ok (.ireturn, 1) := by decide +kernel
theorem dX10_means_26 : decode cX10_means 26 = .ok (.aload_n 0, 1) := by decide +kernel
theorem dX10_means_27 : decode cX10_means 27 = .ok (.getfield 21, 3) := by decide +kernel
theorem dX10_means_30 : decode cX10_means 30 = .ok (.iconst (-1), 1) := by decide +kernel
theorem dX10_means_31 : decode cX10_means 31 = .ok (.invokevirtual 135, 3) := by decide +kernel
theorem dX10_means_34 : decode cX10_means 34 = .ok (.aload_n 0, 1) := by decide +kernel
theorem dX10_means_35 : decode cX10_means 35 = .ok (.getfield 84, 3) := by decide +kernel
theorem dX10_means_38 : decode cX10_means 38 = .ok (.aload_n 0, 1) := by decide +kernel
theorem dX10_means_39 : decode cX10_means 39 = .ok (.getfield 21, 3) := by decide +kernel
theorem dX10_means_42 : decode cX10_means 42 = .ok (.iload_n 1, 1) := by decide +kernel
theorem dX10_means_43 : decode cX10_means 43 = .ok (.iload_n 2, 1) := by decide +kernel
theorem dX10_means_44 : decode cX10_means 44 = .ok (.iload_n 3, 1) := by decide +kernel
theorem dX10_means_45 : decode cX10_means 45 = .ok (.invokevirtual 142, 3) := by decide +kernel
theorem dX10_means_48 : decode cX10_means 48 = .ok (.aload_n 0, 1) := by decide +kernel
theorem dX10_means_49 : decode cX10_means 49 = .ok (.getfield 21, 3) := by decide +kernel
theorem dX10_means_52 : decode cX10_means 52 = .ok (.iload_n 1, 1) := by decide +kernel
theorem dX10_means_53 : decode cX10_means 53 = .ok (.iload_n 3, 1) := by decide +kernel
theorem dX10_means_54 : decode cX10_means 54 = .ok (.invokevirtual 146, 3) := by decide +kernel
theorem dX10_means_57 : decode cX10_means 57 = .ok (.invokevirtual 150, 3) := by decide +kernel
theorem dX10_means_60 : decode cX10_means 60 = .ok (.iconst 1, 1) := by decide +kernel
theorem dX10_means_61 : decode cX10_means 61 = .ok (.ireturn, 1) := by decide +kernel
theorem dX10_odds_0 : decode cX10_odds 0 = .ok (.aload_n 0, 1) := by decide +kernel
theorem dX10_odds_1 : decode cX10_odds 1 = .ok (.iload_n 1, 1) := by decide +kernel
theorem dX10_odds_2 : decode cX10_odds 2 = .ok (.invokevirtual 110, 3) := by decide +kernel
theorem dX10_odds_5 : decode cX10_odds 5 = .ok (.ifCond .eq 10, 3) := by decide +kernel
theorem dX10_odds_8 : decode cX10_odds 8 = .ok (.iload_n 2, 1) := by decide +kernel
theorem dX10_odds_9 : decode cX10_odds 9 = .ok (.invokestatic 132, 3) := by decide +kernel
theorem dX10_odds_12 : decode cX10_odds 12 = .ok (.ifCond .ne 6, 3) := by decide +kernel
theorem dX10_odds_15 : decode cX10_odds 15 = .ok (.bipush (-2), 2) := by decide +kernel
theorem dX10_odds_17 : decode cX10_odds 17 = .ok (.ireturn, 1) := by decide +kernel
theorem dX10_odds_18 : decode cX10_odds 18 = .ok (.aload_n 0, 1) := by decide +kernel
theorem dX10_odds_19 : decode cX10_odds 19 = .ok (.getfield 40, 3) := by decide +kernel
theorem dX10_odds_22 : decode cX10_odds 22 = .ok (.iload_n 1, 1) := by decide +kernel
theorem dX10_odds_23 : decode cX10_odds 23 = .ok (.invokevirtual 154, 3) := by decide +kernel
theorem dX10_odds_26 : decode cX10_odds 26 = .ok (.bipush 12, 2) := by decide +kernel
theorem dX10_odds_28 : decode cX10_odds 28 = .ok (.if_icmp .le 6, 3) := by decide +kernel
theorem dX10_odds_31 : decode cX10_odds 31 = .ok (.bipush (-3), 2) := by decide +kernel
theorem dX10_odds_33 : decode cX10_odds 33 = .ok (.ireturn, 1) := by decide +kernel
theorem dX10_odds_34 : decode cX10_odds 34 = .ok (.aload_n 0, 1) := by decide +kernel
theorem dX10_odds_35 : decode cX10_odds 35 = .ok (.getfield 40, 3) := by decide +kernel
theorem dX10_odds_38 : decode cX10_odds 38 = .ok (.iload_n 1, 1) := by decide +kernel
theorem dX10_odds_39 : decode cX10_odds 39 = .ok (.invokevirtual 157, 3) := by decide +kernel
theorem dX10_odds_42 : decode cX10_odds 42 = .ok (.aload_n 0, 1) := by decide +kernel
theorem dX10_odds_43 : decode cX10_odds 43 = .ok (.getfield 84, 3) := by decide +kernel
theorem dX10_odds_46 : decode cX10_odds 46 = .ok (.aload_n 0, 1) := by decide +kernel
theorem dX10_odds_47 : decode cX10_odds 47 = .ok (.getfield 40, 3) := by decide +kernel
theorem dX10_odds_50 : decode cX10_odds 50 = .ok (.getfield 160, 3) := by decide +kernel
theorem dX10_odds_53 : decode cX10_odds 53 = .ok (.iload_n 2, 1) := by decide +kernel
theorem dX10_odds_54 : decode cX10_odds 54 = .ok (.aaload, 1) := by decide +kernel
theorem dX10_odds_55 : decode cX10_odds 55 = .ok (.aload_n 0, 1) := by decide +kernel
theorem dX10_odds_56 : decode cX10_odds 56 = .ok (.getfield 40, 3) := by decide +kernel
theorem dX10_odds_59 : decode cX10_odds 59 = .ok (.getfield 164, 3) := by decide +kernel
theorem dX10_odds_62 : decode cX10_odds 62 = .ok (.invokevirtual 168, 3) := by decide +kernel
theorem dX10_odds_65 : decode cX10_odds 65 = .ok (.iconst 1, 1) := by decide +kernel
theorem dX10_odds_66 : decode cX10_odds 66 = .ok (.ireturn, 1) := by decide +kernel
theorem dX10_likeliest_0 : decode cX10_likeliest 0 = .ok (.aload_n 0, 1) := by decide +kernel
theorem dX10_likeliest_1 : decode cX10_likeliest 1 = .ok (.iload_n 1, 1) := by decide +kernel
theorem dX10_likeliest_2 : decode cX10_likeliest 2 = .ok (.invokevirtual 110, 3) := by decide +kernel
theorem dX10_likeliest_5 : decode cX10_likeliest 5 = .ok (.ifCond .ne 6, 3) := by decide +kernel
theorem dX10_likeliest_8 : decode cX10_likeliest 8 = .ok (.bipush (-2), 2) := by decide +kernel
theorem dX10_likeliest_10 : decode cX10_likeliest 10 = .ok (.ireturn, 1) := by decide +kernel
theorem dX10_likeliest_11 : decode cX10_likeliest 11 = .ok (.aload_n 0, 1) := by decide +kernel
theorem dX10_likeliest_12 : decode cX10_likeliest 12 = .ok (.getfield 40, 3) := by decide +kernel
theorem dX10_likeliest_15 : decode cX10_likeliest 15 = .ok (.iload_n 1, 1) := by decide +kernel
theorem dX10_likeliest_16 : decode cX10_likeliest 16 = .ok (.invokevirtual 154, 3) := by decide +kernel
theorem dX10_likeliest_19 : decode cX10_likeliest 19 = .ok (.bipush 12, 2) := by decide +kernel
theorem dX10_likeliest_21 : decode cX10_likeliest 21 = .ok (.if_icmp .le 6, 3) := by decide +kernel
theorem dX10_likeliest_24 : decode cX10_likeliest 24 = .ok (.bipush (-3), 2) := by decide +kernel
theorem dX10_likeliest_26 : decode cX10_likeliest 26 = .ok (.ireturn, 1) := by decide +kernel
theorem dX10_likeliest_27 : decode cX10_likeliest 27 = .ok (.aload_n 0, 1) := by decide +kernel
theorem dX10_likeliest_28 : decode cX10_likeliest 28 = .ok (.getfield 40, 3) := by decide +kernel
theorem dX10_likeliest_31 : decode cX10_likeliest 31 = .ok (.iload_n 1, 1) := by decide +kernel
theorem dX10_likeliest_32 : decode cX10_likeliest 32 = .ok (.invokevirtual 157, 3) := by decide +kernel
theorem dX10_likeliest_35 : decode cX10_likeliest 35 = .ok (.aload_n 0, 1) := by decide +kernel
theorem dX10_likeliest_36 : decode cX10_likeliest 36 = .ok (.getfield 40, 3) := by decide +kernel
theorem dX10_likeliest_39 : decode cX10_likeliest 39 = .ok (.invokevirtual 172, 3) := by decide +kernel
theorem dX10_likeliest_42 : decode cX10_likeliest 42 = .ok (.ireturn, 1) := by decide +kernel
theorem dX10_says_0 : decode cX10_says 0 = .ok (.aload_n 0, 1) := by decide +kernel
theorem dX10_says_1 : decode cX10_says 1 = .ok (.iload_n 1, 1) := by decide +kernel
theorem dX10_says_2 : decode cX10_says 2 = .ok (.invokevirtual 100, 3) := by decide +kernel
theorem dX10_says_5 : decode cX10_says 5 = .ok (.ifCond .ne 6, 3) := by decide +kernel
theorem dX10_says_8 : decode cX10_says 8 = .ok (.bipush (-2), 2) := by decide +kernel
theorem dX10_says_10 : decode cX10_says 10 = .ok (.ireturn, 1) := by decide +kernel
theorem dX10_says_11 : decode cX10_says 11 = .ok (.aload_n 0, 1) := by decide +kernel
theorem dX10_says_12 : decode cX10_says 12 = .ok (.getfield 10, 3) := by decide +kernel
theorem dX10_says_15 : decode cX10_says 15 = .ok (.getfield 176, 3) := by decide +kernel
theorem dX10_says_18 : decode cX10_says 18 = .ok (.ifCond .ne 6, 3) := by decide +kernel
theorem dX10_says_21 : decode cX10_says 21 = .ok (.bipush (-3), 2) := by decide +kernel
theorem dX10_says_23 : decode cX10_says 23 = .ok (.ireturn, 1) := by decide +kernel
theorem dX10_says_24 : decode cX10_says 24 = .ok (.aload_n 0, 1) := by decide +kernel
theorem dX10_says_25 : decode cX10_says 25 = .ok (.getfield 21, 3) := by decide +kernel
theorem dX10_says_28 : decode cX10_says 28 = .ok (.iconst (-1), 1) := by decide +kernel
theorem dX10_says_29 : decode cX10_says 29 = .ok (.invokevirtual 135, 3) := by decide +kernel
theorem dX10_says_32 : decode cX10_says 32 = .ok (.lconst 0, 1) := by decide +kernel
theorem dX10_says_33 : decode cX10_says 33 = .ok (.lstore_n 2, 1) := by decide +kernel
theorem dX10_says_34 : decode cX10_says 34 = .ok (.lconst 1, 1) := by decide +kernel
theorem dX10_says_35 : decode cX10_says 35 = .ok (.lstore 4, 2) := by decide +kernel
theorem dX10_says_37 : decode cX10_says 37 = .ok (.iconst 0, 1) := by decide +kernel
theorem dX10_says_38 : decode cX10_says 38 = .ok (.istore 6, 2) := by decide +kernel
theorem dX10_says_40 : decode cX10_says 40 = .ok (.iload 6, 2) := by decide +kernel
theorem dX10_says_42 : decode cX10_says 42 = .ok (.aload_n 0, 1) := by decide +kernel
theorem dX10_says_43 : decode cX10_says 43 = .ok (.getfield 10, 3) := by decide +kernel
theorem dX10_says_46 : decode cX10_says 46 = .ok (.getfield 176, 3) := by decide +kernel
theorem dX10_says_49 : decode cX10_says 49 = .ok (.if_icmp .ge 122, 3) := by decide +kernel
theorem dX10_says_52 : decode cX10_says 52 = .ok (.iconst 0, 1) := by decide +kernel
theorem dX10_says_53 : decode cX10_says 53 = .ok (.istore 7, 2) := by decide +kernel
theorem dX10_says_55 : decode cX10_says 55 = .ok (.iload 7, 2) := by decide +kernel
theorem dX10_says_57 : decode cX10_says 57 = .ok (.iconst 4, 1) := by decide +kernel
theorem dX10_says_58 : decode cX10_says 58 = .ok (.if_icmp .ge 107, 3) := by decide +kernel
theorem dX10_says_61 : decode cX10_says 61 = .ok (.iconst 0, 1) := by decide +kernel
theorem dX10_says_62 : decode cX10_says 62 = .ok (.istore 8, 2) := by decide +kernel
theorem dX10_says_64 : decode cX10_says 64 = .ok (.iload 8, 2) := by decide +kernel
theorem dX10_says_66 : decode cX10_says 66 = .ok (.iconst 4, 1) := by decide +kernel
theorem dX10_says_67 : decode cX10_says 67 = .ok (.if_icmp .ge 92, 3) := by decide +kernel
theorem dX10_says_70 : decode cX10_says 70 = .ok (.aload_n 0, 1) := by decide +kernel
theorem dX10_says_71 : decode cX10_says 71 = .ok (.getfield 21, 3) := by decide +kernel
theorem dX10_says_74 : decode cX10_says 74 = .ok (.iload_n 1, 1) := by decide +kernel
theorem dX10_says_75 : decode cX10_says 75 = .ok (.iload 7, 2) := by decide +kernel
theorem dX10_says_77 : decode cX10_says 77 = .ok (.invokevirtual 146, 3) := by decide +kernel
theorem dX10_says_80 : decode cX10_says 80 = .ok (.lstore 9, 2) := by decide +kernel
theorem dX10_says_82 : decode cX10_says 82 = .ok (.aload_n 0, 1) := by decide +kernel
theorem dX10_says_83 : decode cX10_says 83 = .ok (.getfield 21, 3) := by decide +kernel
theorem dX10_says_86 : decode cX10_says 86 = .ok (.iload_n 1, 1) := by decide +kernel
theorem dX10_says_87 : decode cX10_says 87 = .ok (.iload 8, 2) := by decide +kernel
theorem dX10_says_89 : decode cX10_says 89 = .ok (.invokevirtual 146, 3) := by decide +kernel
theorem dX10_says_92 : decode cX10_says 92 = .ok (.lstore 11, 2) := by decide +kernel
theorem dX10_says_94 : decode cX10_says 94 = .ok (.aload_n 0, 1) := by decide +kernel
theorem dX10_says_95 : decode cX10_says 95 = .ok (.getfield 21, 3) := by decide +kernel
theorem dX10_says_98 : decode cX10_says 98 = .ok (.iload_n 1, 1) := by decide +kernel
theorem dX10_says_99 : decode cX10_says 99 = .ok (.iload 6, 2) := by decide +kernel
theorem dX10_says_101 : decode cX10_says 101 = .ok (.iload 7, 2) := by decide +kernel
theorem dX10_says_103 : decode cX10_says 103 = .ok (.invokevirtual 142, 3) := by decide +kernel
theorem dX10_says_106 : decode cX10_says 106 = .ok (.lload 11, 2) := by decide +kernel
theorem dX10_says_108 : decode cX10_says 108 = .ok (.lmul, 1) := by decide +kernel
theorem dX10_says_109 : decode cX10_says 109 = .ok (.aload_n 0, 1) := by decide +kernel
theorem dX10_says_110 : decode cX10_says 110 = .ok (.getfield 21, 3) := by decide +kernel
theorem dX10_says_113 : decode cX10_says 113 = .ok (.iload_n 1, 1) := by decide +kernel
theorem dX10_says_114 : decode cX10_says 114 = .ok (.iload 6, 2) := by decide +kernel
theorem dX10_says_116 : decode cX10_says 116 = .ok (.iload 8, 2) := by decide +kernel
theorem dX10_says_118 : decode cX10_says 118 = .ok (.invokevirtual 142, 3) := by decide +kernel
theorem dX10_says_121 : decode cX10_says 121 = .ok (.lload 9, 2) := by decide +kernel
theorem dX10_says_123 : decode cX10_says 123 = .ok (.lmul, 1) := by decide +kernel
theorem dX10_says_124 : decode cX10_says 124 = .ok (.lsub, 1) := by decide +kernel
theorem dX10_says_125 : decode cX10_says 125 = .ok (.lstore 13, 2) := by decide +kernel
theorem dX10_says_127 : decode cX10_says 127 = .ok (.lload 13, 2) := by decide +kernel
theorem dX10_says_129 : decode cX10_says 129 = .ok (.lload 4, 2) := by decide +kernel
theorem dX10_says_131 : decode cX10_says 131 = .ok (.lmul, 1) := by decide +kernel
theorem dX10_says_132 : decode cX10_says 132 = .ok (.lload_n 2, 1) := by decide +kernel
theorem dX10_says_133 : decode cX10_says 133 = .ok (.lload 9, 2) := by decide +kernel
theorem dX10_says_135 : decode cX10_says 135 = .ok (.lmul, 1) := by decide +kernel
theorem dX10_says_136 : decode cX10_says 136 = .ok (.lload 11, 2) := by decide +kernel
theorem dX10_says_138 : decode cX10_says 138 = .ok (.lmul, 1) := by decide +kernel
theorem dX10_says_139 : decode cX10_says 139 = .ok (.lcmp, 1) := by decide +kernel
theorem dX10_says_140 : decode cX10_says 140 = .ok (.ifCond .le 13, 3) := by decide +kernel
theorem dX10_says_143 : decode cX10_says 143 = .ok (.lload 13, 2) := by decide +kernel
theorem dX10_says_145 : decode cX10_says 145 = .ok (.lstore_n 2, 1) := by decide +kernel
theorem dX10_says_146 : decode cX10_says 146 = .ok (.lload 9, 2) := by decide +kernel
theorem dX10_says_148 : decode cX10_says 148 = .ok (.lload 11, 2) := by decide +kernel
theorem dX10_says_150 : decode cX10_says 150 = .ok (.lmul, 1) := by decide +kernel
theorem dX10_says_151 : decode cX10_says 151 = .ok (.lstore 4, 2) := by decide +kernel
theorem dX10_says_153 : decode cX10_says 153 = .ok (.iinc 8 1, 3) := by decide +kernel
theorem dX10_says_156 : decode cX10_says 156 = .ok (.goto (-92), 3) := by decide +kernel
theorem dX10_says_159 : decode cX10_says 159 = .ok (.iinc 7 1, 3) := by decide +kernel
theorem dX10_says_162 : decode cX10_says 162 = .ok (.goto (-107), 3) := by decide +kernel
theorem dX10_says_165 : decode cX10_says 165 = .ok (.iinc 6 1, 3) := by decide +kernel
theorem dX10_says_168 : decode cX10_says 168 = .ok (.goto (-128), 3) := by decide +kernel
theorem dX10_says_171 : decode cX10_says 171 = .ok (.aload_n 0, 1) := by decide +kernel
theorem dX10_says_172 : decode cX10_says 172 = .ok (.getfield 84, 3) := by decide +kernel
theorem dX10_says_175 : decode cX10_says 175 = .ok (.lload_n 2, 1) := by decide +kernel
theorem dX10_says_176 : decode cX10_says 176 = .ok (.lload 4, 2) := by decide +kernel
theorem dX10_says_178 : decode cX10_says 178 = .ok (.invokevirtual 150, 3) := by decide +kernel
theorem dX10_says_181 : decode cX10_says 181 = .ok (.iconst 1, 1) := by decide +kernel
theorem dX10_says_182 : decode cX10_says 182 = .ok (.ireturn, 1) := by decide +kernel
theorem dX10_year_0 : decode cX10_year 0 = .ok (.iload_n 1, 1) := by decide +kernel
theorem dX10_year_1 : decode cX10_year 1 = .ok (.invokestatic 116, 3) := by decide +kernel
theorem dX10_year_4 : decode cX10_year 4 = .ok (.ifCond .eq 16, 3) := by decide +kernel
theorem dX10_year_7 : decode cX10_year 7 = .ok (.iload_n 2, 1) := by decide +kernel
theorem dX10_year_8 : decode cX10_year 8 = .ok (.iconst (-1), 1) := by decide +kernel
theorem dX10_year_9 : decode cX10_year 9 = .ok (.if_icmp .eq 14, 3) := by decide +kernel
theorem dX10_year_12 : decode cX10_year 12 = .ok (.aload_n 0, 1) := by decide +kernel
theorem dX10_year_13 : decode cX10_year 13 = .ok (.iload_n 2, 1) := by decide +kernel
theorem dX10_year_14 : decode cX10_year 14 = .ok (.invokevirtual 100, 3) := by decide +kernel
theorem dX10_year_17 : decode cX10_year 17 = .ok (.ifCond .ne 6, 3) := by decide +kernel
theorem dX10_year_20 : decode cX10_year 20 = .ok (.bipush (-2), 2) := by decide +kernel
theorem dX10_year_22 : decode cX10_year 22 = .ok (.ireturn, 1) := by decide +kernel
theorem dX10_year_23 : decode cX10_year 23 = .ok (.aload_n 0, 1) := by decide +kernel
theorem dX10_year_24 : decode cX10_year 24 = .ok (.getfield 47, 3) := by decide +kernel
theorem dX10_year_27 : decode cX10_year 27 = .ok (.aload_n 0, 1) := by decide +kernel
theorem dX10_year_28 : decode cX10_year 28 = .ok (.getfield 47, 3) := by decide +kernel
theorem dX10_year_31 : decode cX10_year 31 = .ok (.getfield 180, 3) := by decide +kernel
theorem dX10_year_34 : decode cX10_year 34 = .ok (.iload_n 1, 1) := by decide +kernel
theorem dX10_year_35 : decode cX10_year 35 = .ok (.iload_n 2, 1) := by decide +kernel
theorem dX10_year_36 : decode cX10_year 36 = .ok (.invokevirtual 183, 3) := by decide +kernel
theorem dX10_year_39 : decode cX10_year 39 = .ok (.aload_n 0, 1) := by decide +kernel
theorem dX10_year_40 : decode cX10_year 40 = .ok (.getfield 47, 3) := by decide +kernel
theorem dX10_year_43 : decode cX10_year 43 = .ok (.aload_n 0, 1) := by decide +kernel
theorem dX10_year_44 : decode cX10_year 44 = .ok (.getfield 47, 3) := by decide +kernel
theorem dX10_year_47 : decode cX10_year 47 = .ok (.getfield 180, 3) := by decide +kernel
theorem dX10_year_50 : decode cX10_year 50 = .ok (.bipush 9, 2) := by decide +kernel
theorem dX10_year_52 : decode cX10_year 52 = .ok (.invokevirtual 187, 3) := by decide +kernel
theorem dX10_year_55 : decode cX10_year 55 = .ok (.istore_n 3, 1) := by decide +kernel
theorem dX10_year_56 : decode cX10_year 56 = .ok (.iload_n 3, 1) := by decide +kernel
theorem dX10_year_57 : decode cX10_year 57 = .ok (.ifCond .ne 6, 3) := by decide +kernel
theorem dX10_year_60 : decode cX10_year 60 = .ok (.bipush (-3), 2) := by decide +kernel
theorem dX10_year_62 : decode cX10_year 62 = .ok (.ireturn, 1) := by decide +kernel
theorem dX10_year_63 : decode cX10_year 63 = .ok (.aload_n 0, 1) := by decide +kernel
theorem dX10_year_64 : decode cX10_year 64 = .ok (.getfield 84, 3) := by decide +kernel
theorem dX10_year_67 : decode cX10_year 67 = .ok (.aload_n 0, 1) := by decide +kernel
theorem dX10_year_68 : decode cX10_year 68 = .ok (.getfield 47, 3) := by decide +kernel
theorem dX10_year_71 : decode cX10_year 71 = .ok (.aload_n 0, 1) := by decide +kernel
theorem dX10_year_72 : decode cX10_year 72 = .ok (.getfield 47, 3) := by decide +kernel
theorem dX10_year_75 : decode cX10_year 75 = .ok (.getfield 180, 3) := by decide +kernel
theorem dX10_year_78 : decode cX10_year 78 = .ok (.invokevirtual 191, 3) := by decide +kernel
theorem dX10_year_81 : decode cX10_year 81 = .ok (.i2l, 1) := by decide +kernel
theorem dX10_year_82 : decode cX10_year 82 = .ok (.iload_n 3, 1) := by decide +kernel
theorem dX10_year_83 : decode cX10_year 83 = .ok (.i2l, 1) := by decide +kernel
theorem dX10_year_84 : decode cX10_year 84 = .ok (.invokevirtual 150, 3) := by decide +kernel
theorem dX10_year_87 : decode cX10_year 87 = .ok (.iconst 1, 1) := by decide +kernel
theorem dX10_year_88 : decode cX10_year 88 = .ok (.ireturn, 1) := by decide +kernel
theorem dX10_asIn_0 : decode cX10_asIn 0 = .ok (.iload_n 1, 1) := by decide +kernel
theorem dX10_asIn_1 : decode cX10_asIn 1 = .ok (.invokestatic 88, 3) := by decide +kernel
theorem dX10_asIn_4 : decode cX10_asIn 4 = .ok (.ifCond .eq 17, 3) := by decide +kernel
theorem dX10_asIn_7 : decode cX10_asIn 7 = .ok (.iload_n 2, 1) := by decide +kernel
theorem dX10_asIn_8 : decode cX10_asIn 8 = .ok (.invokestatic 116, 3) := by decide +kernel
theorem dX10_asIn_11 : decode cX10_asIn 11 = .ok (.ifCond .eq 10, 3) := by decide +kernel
theorem dX10_asIn_14 : decode cX10_asIn 14 = .ok (.iload_n 3, 1) := by decide +kernel
theorem dX10_asIn_15 : decode cX10_asIn 15 = .ok (.invokestatic 116, 3) := by decide +kernel
theorem dX10_asIn_18 : decode cX10_asIn 18 = .ok (.ifCond .ne 6, 3) := by decide +kernel
theorem dX10_asIn_21 : decode cX10_asIn 21 = .ok (.bipush (-2), 2) := by decide +kernel
theorem dX10_asIn_23 : decode cX10_asIn 23 = .ok (.ireturn, 1) := by decide +kernel
theorem dX10_asIn_24 : decode cX10_asIn 24 = .ok (.aload_n 0, 1) := by decide +kernel
theorem dX10_asIn_25 : decode cX10_asIn 25 = .ok (.getfield 47, 3) := by decide +kernel
theorem dX10_asIn_28 : decode cX10_asIn 28 = .ok (.aload_n 0, 1) := by decide +kernel
theorem dX10_asIn_29 : decode cX10_asIn 29 = .ok (.getfield 47, 3) := by decide +kernel
theorem dX10_asIn_32 : decode cX10_asIn 32 = .ok (.getfield 180, 3) := by decide +kernel
theorem dX10_asIn_35 : decode cX10_asIn 35 = .ok (.iload_n 2, 1) := by decide +kernel
theorem dX10_asIn_36 : decode cX10_asIn 36 = .ok (.iconst (-1), 1) := by decide +kernel
theorem dX10_asIn_37 : decode cX10_asIn 37 = .ok (.invokevirtual 183, 3) := by decide +kernel
theorem dX10_asIn_40 : decode cX10_asIn 40 = .ok (.aload_n 0, 1) := by decide +kernel
theorem dX10_asIn_41 : decode cX10_asIn 41 = .ok (.getfield 47, 3) := by decide +kernel
theorem dX10_asIn_44 : decode cX10_asIn 44 = .ok (.aload_n 0, 1) := by decide +kernel
theorem dX10_asIn_45 : decode cX10_asIn 45 = .ok (.getfield 47, 3) := by decide +kernel
theorem dX10_asIn_48 : decode cX10_asIn 48 = .ok (.getfield 195, 3) := by decide +kernel
theorem dX10_asIn_51 : decode cX10_asIn 51 = .ok (.iload_n 3, 1) := by decide +kernel
theorem dX10_asIn_52 : decode cX10_asIn 52 = .ok (.iconst (-1), 1) := by decide +kernel
theorem dX10_asIn_53 : decode cX10_asIn 53 = .ok (.invokevirtual 183, 3) := by decide +kernel
theorem dX10_asIn_56 : decode cX10_asIn 56 = .ok (.aload_n 0, 1) := by decide +kernel
theorem dX10_asIn_57 : decode cX10_asIn 57 = .ok (.getfield 47, 3) := by decide +kernel
theorem dX10_asIn_60 : decode cX10_asIn 60 = .ok (.aload_n 0, 1) := by decide +kernel
theorem dX10_asIn_61 : decode cX10_asIn 61 = .ok (.getfield 47, 3) := by decide +kernel
theorem dX10_asIn_64 : decode cX10_asIn 64 = .ok (.getfield 180, 3) := by decide +kernel
theorem dX10_asIn_67 : decode cX10_asIn 67 = .ok (.bipush 9, 2) := by decide +kernel
theorem dX10_asIn_69 : decode cX10_asIn 69 = .ok (.invokevirtual 187, 3) := by decide +kernel
theorem dX10_asIn_72 : decode cX10_asIn 72 = .ok (.ifCond .eq 22, 3) := by decide +kernel
theorem dX10_asIn_75 : decode cX10_asIn 75 = .ok (.aload_n 0, 1) := by decide +kernel
theorem dX10_asIn_76 : decode cX10_asIn 76 = .ok (.getfield 47, 3) := by decide +kernel
theorem dX10_asIn_79 : decode cX10_asIn 79 = .ok (.aload_n 0, 1) := by decide +kernel
theorem dX10_asIn_80 : decode cX10_asIn 80 = .ok (.getfield 47, 3) := by decide +kernel
theorem dX10_asIn_83 : decode cX10_asIn 83 = .ok (.getfield 195, 3) := by decide +kernel
theorem dX10_asIn_86 : decode cX10_asIn 86 = .ok (.bipush 9, 2) := by decide +kernel
theorem dX10_asIn_88 : decode cX10_asIn 88 = .ok (.invokevirtual 187, 3) := by decide +kernel
theorem dX10_asIn_91 : decode cX10_asIn 91 = .ok (.ifCond .ne 6, 3) := by decide +kernel
theorem dX10_asIn_94 : decode cX10_asIn 94 = .ok (.bipush (-3), 2) := by decide +kernel
theorem dX10_asIn_96 : decode cX10_asIn 96 = .ok (.ireturn, 1) := by decide +kernel
theorem dX10_asIn_97 : decode cX10_asIn 97 = .ok (.aload_n 0, 1) := by decide +kernel
theorem dX10_asIn_98 : decode cX10_asIn 98 = .ok (.getfield 47, 3) := by decide +kernel
theorem dX10_asIn_101 : decode cX10_asIn 101 = .ok (.iload_n 1, 1) := by decide +kernel
theorem dX10_asIn_102 : decode cX10_asIn 102 = .ok (.invokevirtual 198, 3) := by decide +kernel
theorem dX10_asIn_105 : decode cX10_asIn 105 = .ok (.ireturn, 1) := by decide +kernel
theorem dX10_about_0 : decode cX10_about 0 = .ok (.aload_n 0, 1) := by decide +kernel
theorem dX10_about_1 : decode cX10_about 1 = .ok (.iload_n 1, 1) := by decide +kernel
theorem dX10_about_2 : decode cX10_about 2 = .ok (.invokevirtual 126, 3) := by decide +kernel
theorem dX10_about_5 : decode cX10_about 5 = .ok (.ifCond .eq 19, 3) := by decide +kernel
theorem dX10_about_8 : decode cX10_about 8 = .ok (.iload_n 2, 1) := by decide +kernel
theorem dX10_about_9 : decode cX10_about 9 = .ok (.invokestatic 132, 3) := by decide +kernel
theorem dX10_about_12 : decode cX10_about 12 = .ok (.ifCond .eq 12, 3) := by decide +kernel
theorem dX10_about_15 : decode cX10_about 15 = .ok (.iload_n 3, 1) := by decide +kernel
theorem dX10_about_16 : decode cX10_about 16 = .ok (.iconst 0, 1) := by decide +kernel
theorem dX10_about_17 : decode cX10_about 17 = .ok (.iconst 3, 1) := by decide +kernel
theorem dX10_about_18 : decode cX10_about 18 = .ok (.invokestatic 92, 3) := by decide +kernel
theorem dX10_about_21 : decode cX10_about 21 = .ok (.ifCond .ne 6, 3) := by decide +kernel
theorem dX10_about_24 : decode cX10_about 24 = .ok (.bipush (-2), 2) := by decide +kernel
theorem dX10_about_26 : decode cX10_about 26 = .ok (.ireturn, 1) := by decide +kernel
theorem dX10_about_27 : decode cX10_about 27 = .ok (.iload_n 3, 1) := by decide +kernel
theorem dX10_about_28 : decode cX10_about 28 = .ok (.iconst 2, 1) := by decide +kernel
theorem dX10_about_29 : decode cX10_about 29 = .ok (.if_icmp .ge 7, 3) := by decide +kernel
theorem dX10_about_32 : decode cX10_about 32 = .ok (.iconst 1, 1) := by decide +kernel
theorem dX10_about_33 : decode cX10_about 33 = .ok (.goto 4, 3) := by decide +kernel
theorem dX10_about_36 : decode cX10_about 36 = .ok (.iconst 2, 1) := by decide +kernel
theorem dX10_about_37 : decode cX10_about 37 = .ok (.istore 4, 2) := by decide +kernel
theorem dX10_about_39 : decode cX10_about 39 = .ok (.iload_n 3, 1) := by decide +kernel
theorem dX10_about_40 : decode cX10_about 40 = .ok (.iconst 2, 1) := by decide +kernel
theorem dX10_about_41 : decode cX10_about 41 = .ok (.irem, 1) := by decide +kernel
theorem dX10_about_42 : decode cX10_about 42 = .ok (.ifCond .ne 16, 3) := by decide +kernel
theorem dX10_about_45 : decode cX10_about 45 = .ok (.aload_n 0, 1) := by decide +kernel
theorem dX10_about_46 : decode cX10_about 46 = .ok (.getfield 10, 3) := by decide +kernel
theorem dX10_about_49 : decode cX10_about 49 = .ok (.iload 4, 2) := by decide +kernel
theorem dX10_about_51 : decode cX10_about 51 = .ok (.iload_n 2, 1) := by decide +kernel
theorem dX10_about_52 : decode cX10_about 52 = .ok (.invokevirtual 201, 3) := by decide +kernel
theorem dX10_about_55 : decode cX10_about 55 = .ok (.goto 14, 3) := by decide +kernel
theorem dX10_about_58 : decode cX10_about 58 = .ok (.aload_n 0, 1) := by decide +kernel
theorem dX10_about_59 : decode cX10_about 59 = .ok (.getfield 10, 3) := by decide +kernel
theorem dX10_about_62 : decode cX10_about 62 = .ok (.iload_n 1, 1) := by decide +kernel
theorem dX10_about_63 : decode cX10_about 63 = .ok (.iload 4, 2) := by decide +kernel
theorem dX10_about_65 : decode cX10_about 65 = .ok (.iload_n 2, 1) := by decide +kernel
theorem dX10_about_66 : decode cX10_about 66 = .ok (.invokevirtual 204, 3) := by decide +kernel
theorem dX10_about_69 : decode cX10_about 69 = .ok (.ireturn, 1) := by decide +kernel
theorem dX10_chance_0 : decode cX10_chance 0 = .ok (.aload_n 0, 1) := by decide +kernel
theorem dX10_chance_1 : decode cX10_chance 1 = .ok (.iload_n 1, 1) := by decide +kernel
theorem dX10_chance_2 : decode cX10_chance 2 = .ok (.invokevirtual 126, 3) := by decide +kernel
theorem dX10_chance_5 : decode cX10_chance 5 = .ok (.ifCond .eq 19, 3) := by decide +kernel
theorem dX10_chance_8 : decode cX10_chance 8 = .ok (.iload_n 2, 1) := by decide +kernel
theorem dX10_chance_9 : decode cX10_chance 9 = .ok (.invokestatic 132, 3) := by decide +kernel
theorem dX10_chance_12 : decode cX10_chance 12 = .ok (.ifCond .eq 12, 3) := by decide +kernel
theorem dX10_chance_15 : decode cX10_chance 15 = .ok (.iload_n 3, 1) := by decide +kernel
theorem dX10_chance_16 : decode cX10_chance 16 = .ok (.iconst 0, 1) := by decide +kernel
theorem dX10_chance_17 : decode cX10_chance 17 = .ok (.iconst 1, 1) := by decide +kernel
theorem dX10_chance_18 : decode cX10_chance 18 = .ok (.invokestatic 92, 3) := by decide +kernel
theorem dX10_chance_21 : decode cX10_chance 21 = .ok (.ifCond .ne 6, 3) := by decide +kernel
theorem dX10_chance_24 : decode cX10_chance 24 = .ok (.bipush (-2), 2) := by decide +kernel
theorem dX10_chance_26 : decode cX10_chance 26 = .ok (.ireturn, 1) := by decide +kernel
theorem dX10_chance_27 : decode cX10_chance 27 = .ok (.aload_n 0, 1) := by decide +kernel
theorem dX10_chance_28 : decode cX10_chance 28 = .ok (.getfield 10, 3) := by decide +kernel
theorem dX10_chance_31 : decode cX10_chance 31 = .ok (.iconst 1, 1) := by decide +kernel
theorem dX10_chance_32 : decode cX10_chance 32 = .ok (.iload_n 2, 1) := by decide +kernel
theorem dX10_chance_33 : decode cX10_chance 33 = .ok (.invokevirtual 201, 3) := by decide +kernel
theorem dX10_chance_36 : decode cX10_chance 36 = .ok (.istore 4, 2) := by decide +kernel
theorem dX10_chance_38 : decode cX10_chance 38 = .ok (.aload_n 0, 1) := by decide +kernel
theorem dX10_chance_39 : decode cX10_chance 39 = .ok (.getfield 10, 3) := by decide +kernel
theorem dX10_chance_42 : decode cX10_chance 42 = .ok (.iconst 2, 1) := by decide +kernel
theorem dX10_chance_43 : decode cX10_chance 43 = .ok (.iload_n 2, 1) := by decide +kernel
theorem dX10_chance_44 : decode cX10_chance 44 = .ok (.invokevirtual 201, 3) := by decide +kernel
theorem dX10_chance_47 : decode cX10_chance 47 = .ok (.istore 5, 2) := by decide +kernel
theorem dX10_chance_49 : decode cX10_chance 49 = .ok (.aload_n 0, 1) := by decide +kernel
theorem dX10_chance_50 : decode cX10_chance 50 = .ok (.getfield 10, 3) := by decide +kernel
theorem dX10_chance_53 : decode cX10_chance 53 = .ok (.iload_n 1, 1) := by decide +kernel
theorem dX10_chance_54 : decode cX10_chance 54 = .ok (.iconst 1, 1) := by decide +kernel
theorem dX10_chance_55 : decode cX10_chance 55 = .ok (.iload_n 2, 1) := by decide +kernel
theorem dX10_chance_56 : decode cX10_chance 56 = .ok (.invokevirtual 204, 3) := by decide +kernel
theorem dX10_chance_59 : decode cX10_chance 59 = .ok (.istore 6, 2) := by decide +kernel
theorem dX10_chance_61 : decode cX10_chance 61 = .ok (.iload 6, 2) := by decide +kernel
theorem dX10_chance_63 : decode cX10_chance 63 = .ok (.aload_n 0, 1) := by decide +kernel
theorem dX10_chance_64 : decode cX10_chance 64 = .ok (.getfield 10, 3) := by decide +kernel
theorem dX10_chance_67 : decode cX10_chance 67 = .ok (.iload_n 1, 1) := by decide +kernel
theorem dX10_chance_68 : decode cX10_chance 68 = .ok (.iconst 2, 1) := by decide +kernel
theorem dX10_chance_69 : decode cX10_chance 69 = .ok (.iload_n 2, 1) := by decide +kernel
theorem dX10_chance_70 : decode cX10_chance 70 = .ok (.invokevirtual 204, 3) := by decide +kernel
theorem dX10_chance_73 : decode cX10_chance 73 = .ok (.iadd, 1) := by decide +kernel
theorem dX10_chance_74 : decode cX10_chance 74 = .ok (.istore 7, 2) := by decide +kernel
theorem dX10_chance_76 : decode cX10_chance 76 = .ok (.lconst 0, 1) := by decide +kernel
theorem dX10_chance_77 : decode cX10_chance 77 = .ok (.lstore 8, 2) := by decide +kernel
theorem dX10_chance_79 : decode cX10_chance 79 = .ok (.iload 6, 2) := by decide +kernel
theorem dX10_chance_81 : decode cX10_chance 81 = .ok (.istore 10, 2) := by decide +kernel
theorem dX10_chance_83 : decode cX10_chance 83 = .ok (.iload 10, 2) := by decide +kernel
theorem dX10_chance_85 : decode cX10_chance 85 = .ok (.iload 7, 2) := by decide +kernel
theorem dX10_chance_87 : decode cX10_chance 87 = .ok (.if_icmp .gt 32, 3) := by decide +kernel
theorem dX10_chance_90 : decode cX10_chance 90 = .ok (.lload 8, 2) := by decide +kernel
theorem dX10_chance_92 : decode cX10_chance 92 = .ok (.iload 4, 2) := by decide +kernel
theorem dX10_chance_94 : decode cX10_chance 94 = .ok (.iload 10, 2) := by decide +kernel
theorem dX10_chance_96 : decode cX10_chance 96 = .ok (.invokestatic 207, 3) := by decide +kernel
theorem dX10_chance_99 : decode cX10_chance 99 = .ok (.iload 5, 2) := by decide +kernel
theorem dX10_chance_101 : decode cX10_chance 101 = .ok (.iload 7, 2) := by decide +kernel
theorem dX10_chance_103 : decode cX10_chance 103 = .ok (.iload 10, 2) := by decide +kernel
theorem dX10_chance_105 : decode cX10_chance 105 = .ok (.isub, 1) := by decide +kernel
theorem dX10_chance_106 : decode cX10_chance 106 = .ok (.invokestatic 207, 3) := by decide +kernel
theorem dX10_chance_109 : decode cX10_chance 109 = .ok (.lmul, 1) := by decide +kernel
theorem dX10_chance_110 : decode cX10_chance 110 = .ok (.ladd, 1) := by decide +kernel
theorem dX10_chance_111 : decode cX10_chance 111 = .ok (.lstore 8, 2) := by decide +kernel
theorem dX10_chance_113 : decode cX10_chance 113 = .ok (.iinc 10 1, 3) := by decide +kernel
theorem dX10_chance_116 : decode cX10_chance 116 = .ok (.goto (-33), 3) := by decide +kernel
theorem dX10_chance_119 : decode cX10_chance 119 = .ok (.iload 4, 2) := by decide +kernel
theorem dX10_chance_121 : decode cX10_chance 121 = .ok (.iload 5, 2) := by decide +kernel
theorem dX10_chance_123 : decode cX10_chance 123 = .ok (.iadd, 1) := by decide +kernel
theorem dX10_chance_124 : decode cX10_chance 124 = .ok (.iload 7, 2) := by decide +kernel
theorem dX10_chance_126 : decode cX10_chance 126 = .ok (.invokestatic 207, 3) := by decide +kernel
theorem dX10_chance_129 : decode cX10_chance 129 = .ok (.lstore 10, 2) := by decide +kernel
theorem dX10_chance_131 : decode cX10_chance 131 = .ok (.iload_n 3, 1) := by decide +kernel
theorem dX10_chance_132 : decode cX10_chance 132 = .ok (.iconst 1, 1) := by decide +kernel
theorem dX10_chance_133 : decode cX10_chance 133 = .ok (.if_icmp .ne 21, 3) := by decide +kernel
theorem dX10_chance_136 : decode cX10_chance 136 = .ok (.lload 8, 2) := by decide +kernel
theorem dX10_chance_138 : decode cX10_chance 138 = .ok (.aload_n 0, 1) := by decide +kernel
theorem dX10_chance_139 : decode cX10_chance 139 = .ok (.getfield 10, 3) := by decide +kernel
theorem dX10_chance_142 : decode cX10_chance 142 = .ok (.getfield 176, 3) := by decide +kernel
theorem dX10_chance_145 : decode cX10_chance 145 = .ok (.i2l, 1) := by decide +kernel
theorem dX10_chance_146 : decode cX10_chance 146 = .ok (.lmul, 1) := by decide +kernel
theorem dX10_chance_147 : decode cX10_chance 147 = .ok (.lload 10, 2) := by decide +kernel
theorem dX10_chance_149 : decode cX10_chance 149 = .ok (.invokestatic 210, 3) := by decide +kernel
theorem dX10_chance_152 : decode cX10_chance 152 = .ok (.lstore 8, 2) := by decide +kernel
theorem dX10_chance_154 : decode cX10_chance 154 = .ok (.aload_n 0, 1) := by decide +kernel
theorem dX10_chance_155 : decode cX10_chance 155 = .ok (.getfield 84, 3) := by decide +kernel
theorem dX10_chance_158 : decode cX10_chance 158 = .ok (.lload 8, 2) := by decide +kernel
theorem dX10_chance_160 : decode cX10_chance 160 = .ok (.lload 10, 2) := by decide +kernel
theorem dX10_chance_162 : decode cX10_chance 162 = .ok (.invokevirtual 150, 3) := by decide +kernel
theorem dX10_chance_165 : decode cX10_chance 165 = .ok (.iconst 1, 1) := by decide +kernel
theorem dX10_chance_166 : decode cX10_chance 166 = .ok (.ireturn, 1) := by decide +kernel
theorem dX10_like_0 : decode cX10_like 0 = .ok (.aload_n 0, 1) := by decide +kernel
theorem dX10_like_1 : decode cX10_like 1 = .ok (.iload_n 1, 1) := by decide +kernel
theorem dX10_like_2 : decode cX10_like 2 = .ok (.invokevirtual 123, 3) := by decide +kernel
theorem dX10_like_5 : decode cX10_like 5 = .ok (.ifCond .eq 25, 3) := by decide +kernel
theorem dX10_like_8 : decode cX10_like 8 = .ok (.aload_n 0, 1) := by decide +kernel
theorem dX10_like_9 : decode cX10_like 9 = .ok (.iload_n 2, 1) := by decide +kernel
theorem dX10_like_10 : decode cX10_like 10 = .ok (.invokevirtual 123, 3) := by decide +kernel
theorem dX10_like_13 : decode cX10_like 13 = .ok (.ifCond .eq 17, 3) := by decide +kernel
theorem dX10_like_16 : decode cX10_like 16 = .ok (.iload_n 1, 1) := by decide +kernel
theorem dX10_like_17 : decode cX10_like 17 = .ok (.iload_n 2, 1) := by decide +kernel
theorem dX10_like_18 : decode cX10_like 18 = .ok (.if_icmp .eq 12, 3) := by decide +kernel
theorem dX10_like_21 : decode cX10_like 21 = .ok (.iload_n 3, 1) := by decide +kernel
theorem dX10_like_22 : decode cX10_like 22 = .ok (.iconst 0, 1) := by decide +kernel
theorem dX10_like_23 : decode cX10_like 23 = .ok (.iconst 1, 1) := by decide +kernel
theorem dX10_like_24 : decode cX10_like 24 = .ok (.invokestatic 92, 3) := by decide +kernel
theorem dX10_like_27 : decode cX10_like 27 = .ok (.ifCond .ne 6, 3) := by decide +kernel
theorem dX10_like_30 : decode cX10_like 30 = .ok (.bipush (-2), 2) := by decide +kernel
theorem dX10_like_32 : decode cX10_like 32 = .ok (.ireturn, 1) := by decide +kernel
theorem dX10_like_33 : decode cX10_like 33 = .ok (.iload_n 3, 1) := by decide +kernel
theorem dX10_like_34 : decode cX10_like 34 = .ok (.ifCond .ne 15, 3) := by decide +kernel
theorem dX10_like_37 : decode cX10_like 37 = .ok (.aload_n 0, 1) := by decide +kernel
theorem dX10_like_38 : decode cX10_like 38 = .ok (.getfield 54, 3) := by decide +kernel
theorem dX10_like_41 : decode cX10_like 41 = .ok (.iload_n 1, 1) := by decide +kernel
theorem dX10_like_42 : decode cX10_like 42 = .ok (.iload_n 2, 1) := by decide +kernel
theorem dX10_like_43 : decode cX10_like 43 = .ok (.invokevirtual 216, 3) := by decide +kernel
theorem dX10_like_46 : decode cX10_like 46 = .ok (.goto 12, 3) := by decide +kernel
theorem dX10_like_49 : decode cX10_like 49 = .ok (.aload_n 0, 1) := by decide +kernel
theorem dX10_like_50 : decode cX10_like 50 = .ok (.getfield 54, 3) := by decide +kernel
theorem dX10_like_53 : decode cX10_like 53 = .ok (.iload_n 1, 1) := by decide +kernel
theorem dX10_like_54 : decode cX10_like 54 = .ok (.iload_n 2, 1) := by decide +kernel
theorem dX10_like_55 : decode cX10_like 55 = .ok (.invokevirtual 219, 3) := by decide +kernel
theorem dX10_like_58 : decode cX10_like 58 = .ok (.ireturn, 1) := by decide +kernel
theorem dX10_left_0 : decode cX10_left 0 = .ok (.aload_n 0, 1) := by decide +kernel
theorem dX10_left_1 : decode cX10_left 1 = .ok (.iload_n 1, 1) := by decide +kernel
theorem dX10_left_2 : decode cX10_left 2 = .ok (.invokevirtual 123, 3) := by decide +kernel
theorem dX10_left_5 : decode cX10_left 5 = .ok (.ifCond .eq 13, 3) := by decide +kernel
theorem dX10_left_8 : decode cX10_left 8 = .ok (.iload_n 2, 1) := by decide +kernel
theorem dX10_left_9 : decode cX10_left 9 = .ok (.iconst 1, 1) := by decide +kernel
theorem dX10_left_10 : decode cX10_left 10 = .ok (.bipush 8, 2) := by decide +kernel
theorem dX10_left_12 : decode cX10_left 12 = .ok (.invokestatic 92, 3) := by decide +kernel
theorem dX10_left_15 : decode cX10_left 15 = .ok (.ifCond .ne 6, 3) := by decide +kernel
theorem dX10_left_18 : decode cX10_left 18 = .ok (.bipush (-2), 2) := by decide +kernel
theorem dX10_left_20 : decode cX10_left 20 = .ok (.ireturn, 1) := by decide +kernel
theorem dX10_left_21 : decode cX10_left 21 = .ok (.aload_n 0, 1) := by decide +kernel
theorem dX10_left_22 : decode cX10_left 22 = .ok (.getfield 54, 3) := by decide +kernel
theorem dX10_left_25 : decode cX10_left 25 = .ok (.iload_n 1, 1) := by decide +kernel
theorem dX10_left_26 : decode cX10_left 26 = .ok (.iload_n 2, 1) := by decide +kernel
theorem dX10_left_27 : decode cX10_left 27 = .ok (.invokevirtual 222, 3) := by decide +kernel
theorem dX10_left_30 : decode cX10_left 30 = .ok (.ireturn, 1) := by decide +kernel
theorem dX10_slip_0 : decode cX10_slip 0 = .ok (.aload_n 0, 1) := by decide +kernel
theorem dX10_slip_1 : decode cX10_slip 1 = .ok (.iload_n 1, 1) := by decide +kernel
theorem dX10_slip_2 : decode cX10_slip 2 = .ok (.invokevirtual 123, 3) := by decide +kernel
theorem dX10_slip_5 : decode cX10_slip 5 = .ok (.ifCond .ne 6, 3) := by decide +kernel
theorem dX10_slip_8 : decode cX10_slip 8 = .ok (.bipush (-2), 2) := by decide +kernel
theorem dX10_slip_10 : decode cX10_slip 10 = .ok (.ireturn, 1) := by decide +kernel
theorem dX10_slip_11 : decode cX10_slip 11 = .ok (.aload_n 0, 1) := by decide +kernel
theorem dX10_slip_12 : decode cX10_slip 12 = .ok (.getfield 10, 3) := by decide +kernel
theorem dX10_slip_15 : decode cX10_slip 15 = .ok (.getfield 225, 3) := by decide +kernel
theorem dX10_slip_18 : decode cX10_slip 18 = .ok (.aload_n 0, 1) := by decide +kernel
theorem dX10_slip_19 : decode cX10_slip 19 = .ok (.getfield 10, 3) := by decide +kernel
theorem dX10_slip_22 : decode cX10_slip 22 = .ok (.getfield 228, 3) := by decide +kernel
theorem dX10_slip_25 : decode cX10_slip 25 = .ok (.iload_n 1, 1) := by decide +kernel
theorem dX10_slip_26 : decode cX10_slip 26 = .ok (.iaload, 1) := by decide +kernel
theorem dX10_slip_27 : decode cX10_slip 27 = .ok (.iaload, 1) := by decide +kernel
theorem dX10_slip_28 : decode cX10_slip 28 = .ok (.istore_n 2, 1) := by decide +kernel
theorem dX10_slip_29 : decode cX10_slip 29 = .ok (.iconst 0, 1) := by decide +kernel
theorem dX10_slip_30 : decode cX10_slip 30 = .ok (.istore_n 3, 1) := by decide +kernel
theorem dX10_slip_31 : decode cX10_slip 31 = .ok (.iload_n 3, 1) := by decide +kernel
theorem dX10_slip_32 : decode cX10_slip 32 = .ok (.aload_n 0, 1) := by decide +kernel
theorem dX10_slip_33 : decode cX10_slip 33 = .ok (.getfield 10, 3) := by decide +kernel
theorem dX10_slip_36 : decode cX10_slip 36 = .ok (.getfield 231, 3) := by decide +kernel
theorem dX10_slip_39 : decode cX10_slip 39 = .ok (.iload_n 1, 1) := by decide +kernel
theorem dX10_slip_40 : decode cX10_slip 40 = .ok (.iaload, 1) := by decide +kernel
theorem dX10_slip_41 : decode cX10_slip 41 = .ok (.if_icmp .ge 43, 3) := by decide +kernel
theorem dX10_slip_44 : decode cX10_slip 44 = .ok (.aload_n 0, 1) := by decide +kernel
theorem dX10_slip_45 : decode cX10_slip 45 = .ok (.getfield 10, 3) := by decide +kernel
theorem dX10_slip_48 : decode cX10_slip 48 = .ok (.getfield 234, 3) := by decide +kernel
theorem dX10_slip_51 : decode cX10_slip 51 = .ok (.aload_n 0, 1) := by decide +kernel
theorem dX10_slip_52 : decode cX10_slip 52 = .ok (.getfield 10, 3) := by decide +kernel
theorem dX10_slip_55 : decode cX10_slip 55 = .ok (.getfield 237, 3) := by decide +kernel
theorem dX10_slip_58 : decode cX10_slip 58 = .ok (.iload_n 1, 1) := by decide +kernel
theorem dX10_slip_59 : decode cX10_slip 59 = .ok (.aaload, 1) := by decide +kernel
theorem dX10_slip_60 : decode cX10_slip 60 = .ok (.iload_n 3, 1) := by decide +kernel
theorem dX10_slip_61 : decode cX10_slip 61 = .ok (.iaload, 1) := by decide +kernel
theorem dX10_slip_62 : decode cX10_slip 62 = .ok (.iaload, 1) := by decide +kernel
theorem dX10_slip_63 : decode cX10_slip 63 = .ok (.istore 4, 2) := by decide +kernel
theorem dX10_slip_65 : decode cX10_slip 65 = .ok (.iload 4, 2) := by decide +kernel
theorem dX10_slip_67 : decode cX10_slip 67 = .ok (.ifCond .eq 11, 3) := by decide +kernel
theorem dX10_slip_70 : decode cX10_slip 70 = .ok (.iload 4, 2) := by decide +kernel
theorem dX10_slip_72 : decode cX10_slip 72 = .ok (.iload_n 2, 1) := by decide +kernel
theorem dX10_slip_73 : decode cX10_slip 73 = .ok (.if_icmp .eq 5, 3) := by decide +kernel
theorem dX10_slip_76 : decode cX10_slip 76 = .ok (.iload_n 3, 1) := by decide +kernel
theorem dX10_slip_77 : decode cX10_slip 77 = .ok (.ireturn, 1) := by decide +kernel
theorem dX10_slip_78 : decode cX10_slip 78 = .ok (.iinc 3 1, 3) := by decide +kernel
theorem dX10_slip_81 : decode cX10_slip 81 = .ok (.goto (-50), 3) := by decide +kernel
theorem dX10_slip_84 : decode cX10_slip 84 = .ok (.iconst (-1), 1) := by decide +kernel
theorem dX10_slip_85 : decode cX10_slip 85 = .ok (.ireturn, 1) := by decide +kernel
theorem dX10_said_0 : decode cX10_said 0 = .ok (.aload_n 0, 1) := by decide +kernel
theorem dX10_said_1 : decode cX10_said 1 = .ok (.iload_n 1, 1) := by decide +kernel
theorem dX10_said_2 : decode cX10_said 2 = .ok (.invokevirtual 100, 3) := by decide +kernel
theorem dX10_said_5 : decode cX10_said 5 = .ok (.ifCond .eq 24, 3) := by decide +kernel
theorem dX10_said_8 : decode cX10_said 8 = .ok (.aload_n 0, 1) := by decide +kernel
theorem dX10_said_9 : decode cX10_said 9 = .ok (.iload_n 2, 1) := by decide +kernel
theorem dX10_said_10 : decode cX10_said 10 = .ok (.invokevirtual 110, 3) := by decide +kernel
theorem dX10_said_13 : decode cX10_said 13 = .ok (.ifCond .eq 16, 3) := by decide +kernel
theorem dX10_said_16 : decode cX10_said 16 = .ok (.aload_n 0, 1) := by decide +kernel
theorem dX10_said_17 : decode cX10_said 17 = .ok (.iload_n 3, 1) := by decide +kernel
theorem dX10_said_18 : decode cX10_said 18 = .ok (.invokevirtual 110, 3) := by decide +kernel
theorem dX10_said_21 : decode cX10_said 21 = .ok (.ifCond .eq 8, 3) := by decide +kernel
theorem dX10_said_24 : decode cX10_said 24 = .ok (.iload_n 2, 1) := by decide +kernel
theorem dX10_said_25 : decode cX10_said 25 = .ok (.iload_n 3, 1) := by decide +kernel
theorem dX10_said_26 : decode cX10_said 26 = .ok (.if_icmp .ne 6, 3) := by decide +kernel
theorem dX10_said_29 : decode cX10_said 29 = .ok (.bipush (-2), 2) := by decide +kernel
theorem dX10_said_31 : decode cX10_said 31 = .ok (.ireturn, 1) := by decide +kernel
theorem dX10_said_32 : decode cX10_said 32 = .ok (.aload_n 0, 1) := by decide +kernel
theorem dX10_said_33 : decode cX10_said 33 = .ok (.getfield 61, 3) := by decide +kernel
theorem dX10_said_36 : decode cX10_said 36 = .ok (.iload_n 1, 1) := by decide +kernel
theorem dX10_said_37 : decode cX10_said 37 = .ok (.iload_n 2, 1) := by decide +kernel
theorem dX10_said_38 : decode cX10_said 38 = .ok (.iload_n 3, 1) := by decide +kernel
theorem dX10_said_39 : decode cX10_said 39 = .ok (.invokevirtual 241, 3) := by decide +kernel
theorem dX10_said_42 : decode cX10_said 42 = .ok (.ireturn, 1) := by decide +kernel
theorem dX10_order_0 : decode cX10_order 0 = .ok (.iload_n 1, 1) := by decide +kernel
theorem dX10_order_1 : decode cX10_order 1 = .ok (.iconst (-1), 1) := by decide +kernel
theorem dX10_order_2 : decode cX10_order 2 = .ok (.if_icmp .eq 14, 3) := by decide +kernel
theorem dX10_order_5 : decode cX10_order 5 = .ok (.aload_n 0, 1) := by decide +kernel
theorem dX10_order_6 : decode cX10_order 6 = .ok (.iload_n 1, 1) := by decide +kernel
theorem dX10_order_7 : decode cX10_order 7 = .ok (.invokevirtual 110, 3) := by decide +kernel
theorem dX10_order_10 : decode cX10_order 10 = .ok (.ifCond .ne 6, 3) := by decide +kernel
theorem dX10_order_13 : decode cX10_order 13 = .ok (.bipush (-10), 2) := by decide +kernel
theorem dX10_order_15 : decode cX10_order 15 = .ok (.ireturn, 1) := by decide +kernel
theorem dX10_order_16 : decode cX10_order 16 = .ok (.aload_n 0, 1) := by decide +kernel
theorem dX10_order_17 : decode cX10_order 17 = .ok (.getfield 61, 3) := by decide +kernel
theorem dX10_order_20 : decode cX10_order 20 = .ok (.aload_n 0, 1) := by decide +kernel
theorem dX10_order_21 : decode cX10_order 21 = .ok (.getfield 10, 3) := by decide +kernel
theorem dX10_order_24 : decode cX10_order 24 = .ok (.getfield 244, 3) := by decide +kernel
theorem dX10_order_27 : decode cX10_order 27 = .ok (.iconst (-1), 1) := by decide +kernel
theorem dX10_order_28 : decode cX10_order 28 = .ok (.iconst (-1), 1) := by decide +kernel
theorem dX10_order_29 : decode cX10_order 29 = .ok (.invokevirtual 247, 3) := by decide +kernel
theorem dX10_order_32 : decode cX10_order 32 = .ok (.istore_n 2, 1) := by decide +kernel
theorem dX10_order_33 : decode cX10_order 33 = .ok (.iload_n 1, 1) := by decide +kernel
theorem dX10_order_34 : decode cX10_order 34 = .ok (.iconst (-1), 1) := by decide +kernel
theorem dX10_order_35 : decode cX10_order 35 = .ok (.if_icmp .ne 7, 3) := by decide +kernel
theorem dX10_order_38 : decode cX10_order 38 = .ok (.iload_n 2, 1) := by decide +kernel
theorem dX10_order_39 : decode cX10_order 39 = .ok (.goto 18, 3) := by decide +kernel
theorem dX10_order_42 : decode cX10_order 42 = .ok (.aload_n 0, 1) := by decide +kernel
theorem dX10_order_43 : decode cX10_order 43 = .ok (.getfield 61, 3) := by decide +kernel
theorem dX10_order_46 : decode cX10_order 46 = .ok (.aload_n 0, 1) := by decide +kernel
theorem dX10_order_47 : decode cX10_order 47 = .ok (.getfield 10, 3) := by decide +kernel
theorem dX10_order_50 : decode cX10_order 50 = .ok (.getfield 244, 3) := by decide +kernel
theorem dX10_order_53 : decode cX10_order 53 = .ok (.iload_n 1, 1) := by decide +kernel
theorem dX10_order_54 : decode cX10_order 54 = .ok (.invokevirtual 250, 3) := by decide +kernel
theorem dX10_order_57 : decode cX10_order 57 = .ok (.ireturn, 1) := by decide +kernel
theorem dX10_sure_0 : decode cX10_sure 0 = .ok (.aload_n 0, 1) := by decide +kernel
theorem dX10_sure_1 : decode cX10_sure 1 = .ok (.iload_n 1, 1) := by decide +kernel
theorem dX10_sure_2 : decode cX10_sure 2 = .ok (.invokevirtual 110, 3) := by decide +kernel
theorem dX10_sure_5 : decode cX10_sure 5 = .ok (.ifCond .eq 16, 3) := by decide +kernel
theorem dX10_sure_8 : decode cX10_sure 8 = .ok (.aload_n 0, 1) := by decide +kernel
theorem dX10_sure_9 : decode cX10_sure 9 = .ok (.iload_n 2, 1) := by decide +kernel
theorem dX10_sure_10 : decode cX10_sure 10 = .ok (.invokevirtual 110, 3) := by decide +kernel
theorem dX10_sure_13 : decode cX10_sure 13 = .ok (.ifCond .eq 8, 3) := by decide +kernel
theorem dX10_sure_16 : decode cX10_sure 16 = .ok (.iload_n 1, 1) := by decide +kernel
theorem dX10_sure_17 : decode cX10_sure 17 = .ok (.iload_n 2, 1) := by decide +kernel
theorem dX10_sure_18 : decode cX10_sure 18 = .ok (.if_icmp .ne 6, 3) := by decide +kernel
theorem dX10_sure_21 : decode cX10_sure 21 = .ok (.bipush (-2), 2) := by decide +kernel
theorem dX10_sure_23 : decode cX10_sure 23 = .ok (.ireturn, 1) := by decide +kernel
theorem dX10_sure_24 : decode cX10_sure 24 = .ok (.aload_n 0, 1) := by decide +kernel
theorem dX10_sure_25 : decode cX10_sure 25 = .ok (.getfield 61, 3) := by decide +kernel
theorem dX10_sure_28 : decode cX10_sure 28 = .ok (.aload_n 0, 1) := by decide +kernel
theorem dX10_sure_29 : decode cX10_sure 29 = .ok (.getfield 10, 3) := by decide +kernel
theorem dX10_sure_32 : decode cX10_sure 32 = .ok (.getfield 244, 3) := by decide +kernel
theorem dX10_sure_35 : decode cX10_sure 35 = .ok (.iconst (-1), 1) := by decide +kernel
theorem dX10_sure_36 : decode cX10_sure 36 = .ok (.iconst (-1), 1) := by decide +kernel
theorem dX10_sure_37 : decode cX10_sure 37 = .ok (.invokevirtual 247, 3) := by decide +kernel
theorem dX10_sure_40 : decode cX10_sure 40 = .ok (.istore_n 3, 1) := by decide +kernel
theorem dX10_sure_41 : decode cX10_sure 41 = .ok (.aload_n 0, 1) := by decide +kernel
theorem dX10_sure_42 : decode cX10_sure 42 = .ok (.getfield 61, 3) := by decide +kernel
theorem dX10_sure_45 : decode cX10_sure 45 = .ok (.aload_n 0, 1) := by decide +kernel
theorem dX10_sure_46 : decode cX10_sure 46 = .ok (.getfield 10, 3) := by decide +kernel
theorem dX10_sure_49 : decode cX10_sure 49 = .ok (.getfield 244, 3) := by decide +kernel
theorem dX10_sure_52 : decode cX10_sure 52 = .ok (.iload_n 1, 1) := by decide +kernel
theorem dX10_sure_53 : decode cX10_sure 53 = .ok (.iload_n 2, 1) := by decide +kernel
theorem dX10_sure_54 : decode cX10_sure 54 = .ok (.invokevirtual 247, 3) := by decide +kernel
theorem dX10_sure_57 : decode cX10_sure 57 = .ok (.iload_n 3, 1) := by decide +kernel
theorem dX10_sure_58 : decode cX10_sure 58 = .ok (.if_icmp .le 7, 3) := by decide +kernel
theorem dX10_sure_61 : decode cX10_sure 61 = .ok (.iconst 1, 1) := by decide +kernel
theorem dX10_sure_62 : decode cX10_sure 62 = .ok (.goto 4, 3) := by decide +kernel
theorem dX10_sure_65 : decode cX10_sure 65 = .ok (.iconst 0, 1) := by decide +kernel
theorem dX10_sure_66 : decode cX10_sure 66 = .ok (.ireturn, 1) := by decide +kernel
theorem dX10_kin_0 : decode cX10_kin 0 = .ok (.iload_n 1, 1) := by decide +kernel
theorem dX10_kin_1 : decode cX10_kin 1 = .ok (.iconst 0, 1) := by decide +kernel
theorem dX10_kin_2 : decode cX10_kin 2 = .ok (.iconst 5, 1) := by decide +kernel
theorem dX10_kin_3 : decode cX10_kin 3 = .ok (.invokestatic 92, 3) := by decide +kernel
theorem dX10_kin_6 : decode cX10_kin 6 = .ok (.ifCond .eq 13, 3) := by decide +kernel
theorem dX10_kin_9 : decode cX10_kin 9 = .ok (.iload_n 2, 1) := by decide +kernel
theorem dX10_kin_10 : decode cX10_kin 10 = .ok (.iconst 0, 1) := by decide +kernel
theorem dX10_kin_11 : decode cX10_kin 11 = .ok (.bipush 63, 2) := by decide +kernel
theorem dX10_kin_13 : decode cX10_kin 13 = .ok (.invokestatic 92, 3) := by decide +kernel
theorem dX10_kin_16 : decode cX10_kin 16 = .ok (.ifCond .ne 6, 3) := by decide +kernel
theorem dX10_kin_19 : decode cX10_kin 19 = .ok (.bipush (-2), 2) := by decide +kernel
theorem dX10_kin_21 : decode cX10_kin 21 = .ok (.ireturn, 1) := by decide +kernel
theorem dX10_kin_22 : decode cX10_kin 22 = .ok (.aload_n 0, 1) := by decide +kernel
theorem dX10_kin_23 : decode cX10_kin 23 = .ok (.getfield 68, 3) := by decide +kernel
theorem dX10_kin_26 : decode cX10_kin 26 = .ok (.getfield 253, 3) := by decide +kernel
theorem dX10_kin_29 : decode cX10_kin 29 = .ok (.iload_n 1, 1) := by decide +kernel
theorem dX10_kin_30 : decode cX10_kin 30 = .ok (.iaload, 1) := by decide +kernel
theorem dX10_kin_31 : decode cX10_kin 31 = .ok (.istore_n 3, 1) := by decide +kernel
theorem dX10_kin_32 : decode cX10_kin 32 = .ok (.aload_n 0, 1) := by decide +kernel
theorem dX10_kin_33 : decode cX10_kin 33 = .ok (.getfield 68, 3) := by decide +kernel
theorem dX10_kin_36 : decode cX10_kin 36 = .ok (.getfield 253, 3) := by decide +kernel
theorem dX10_kin_39 : decode cX10_kin 39 = .ok (.iload_n 1, 1) := by decide +kernel
theorem dX10_kin_40 : decode cX10_kin 40 = .ok (.iload_n 2, 1) := by decide +kernel
theorem dX10_kin_41 : decode cX10_kin 41 = .ok (.iastore, 1) := by decide +kernel
theorem dX10_kin_42 : decode cX10_kin 42 = .ok (.iload_n 3, 1) := by decide +kernel
theorem dX10_kin_43 : decode cX10_kin 43 = .ok (.ireturn, 1) := by decide +kernel
theorem dX10_dealt_0 : decode cX10_dealt 0 = .ok (.iload_n 1, 1) := by decide +kernel
theorem dX10_dealt_1 : decode cX10_dealt 1 = .ok (.iconst 1, 1) := by decide +kernel
theorem dX10_dealt_2 : decode cX10_dealt 2 = .ok (.iconst 1, 1) := by decide +kernel
theorem dX10_dealt_3 : decode cX10_dealt 3 = .ok (.aload_n 0, 1) := by decide +kernel
theorem dX10_dealt_4 : decode cX10_dealt 4 = .ok (.getfield 10, 3) := by decide +kernel
theorem dX10_dealt_7 : decode cX10_dealt 7 = .ok (.getfield 256, 3) := by decide +kernel
theorem dX10_dealt_10 : decode cX10_dealt 10 = .ok (.ishl, 1) := by decide +kernel
theorem dX10_dealt_11 : decode cX10_dealt 11 = .ok (.iconst 1, 1) := by decide +kernel
theorem dX10_dealt_12 : decode cX10_dealt 12 = .ok (.isub, 1) := by decide +kernel
theorem dX10_dealt_13 : decode cX10_dealt 13 = .ok (.invokestatic 92, 3) := by decide +kernel
theorem dX10_dealt_16 : decode cX10_dealt 16 = .ok (.ifCond .eq 12, 3) := by decide +kernel
theorem dX10_dealt_19 : decode cX10_dealt 19 = .ok (.iload_n 1, 1) := by decide +kernel
theorem dX10_dealt_20 : decode cX10_dealt 20 = .ok (.invokestatic 259, 3) := by decide +kernel
theorem dX10_dealt_23 : decode cX10_dealt 23 = .ok (.bipush 6, 2) := by decide +kernel
theorem dX10_dealt_25 : decode cX10_dealt 25 = .ok (.if_icmp .le 6, 3) := by decide +kernel
theorem dX10_dealt_28 : decode cX10_dealt 28 = .ok (.bipush (-10), 2) := by decide +kernel
theorem dX10_dealt_30 : decode cX10_dealt 30 = .ok (.ireturn, 1) := by decide +kernel
theorem dX10_dealt_31 : decode cX10_dealt 31 = .ok (.iload_n 2, 1) := by decide +kernel
theorem dX10_dealt_32 : decode cX10_dealt 32 = .ok (.iconst (-1), 1) := by decide +kernel
theorem dX10_dealt_33 : decode cX10_dealt 33 = .ok (.if_icmp .eq 22, 3) := by decide +kernel
theorem dX10_dealt_36 : decode cX10_dealt 36 = .ok (.aload_n 0, 1) := by decide +kernel
theorem dX10_dealt_37 : decode cX10_dealt 37 = .ok (.iload_n 2, 1) := by decide +kernel
theorem dX10_dealt_38 : decode cX10_dealt 38 = .ok (.invokevirtual 123, 3) := by decide +kernel
theorem dX10_dealt_41 : decode cX10_dealt 41 = .ok (.ifCond .eq 11, 3) := by decide +kernel
theorem dX10_dealt_44 : decode cX10_dealt 44 = .ok (.iload_n 1, 1) := by decide +kernel
theorem dX10_dealt_45 : decode cX10_dealt 45 = .ok (.iload_n 2, 1) := by decide +kernel
theorem dX10_dealt_46 : decode cX10_dealt 46 = .ok (.ishr, 1) := by decide +kernel
theorem dX10_dealt_47 : decode cX10_dealt 47 = .ok (.iconst 1, 1) := by decide +kernel
theorem dX10_dealt_48 : decode cX10_dealt 48 = .ok (.iand, 1) := by decide +kernel
theorem dX10_dealt_49 : decode cX10_dealt 49 = .ok (.ifCond .ne 6, 3) := by decide +kernel
theorem dX10_dealt_52 : decode cX10_dealt 52 = .ok (.bipush (-10), 2) := by decide +kernel
theorem dX10_dealt_54 : decode cX10_dealt 54 = .ok (.ireturn, 1) := by decide +kernel
theorem dX10_dealt_55 : decode cX10_dealt 55 = .ok (.aload_n 0, 1) := by decide +kernel
theorem dX10_dealt_56 : decode cX10_dealt 56 = .ok (.getfield 68, 3) := by decide +kernel
theorem dX10_dealt_59 : decode cX10_dealt 59 = .ok (.iload_n 1, 1) := by decide +kernel
theorem dX10_dealt_60 : decode cX10_dealt 60 = .ok (.invokevirtual 264, 3) := by decide +kernel
theorem dX10_dealt_63 : decode cX10_dealt 63 = .ok (.istore_n 3, 1) := by decide +kernel
theorem dX10_dealt_64 : decode cX10_dealt 64 = .ok (.iload_n 2, 1) := by decide +kernel
theorem dX10_dealt_65 : decode cX10_dealt 65 = .ok (.iconst (-1), 1) := by decide +kernel
theorem dX10_dealt_66 : decode cX10_dealt 66 = .ok (.if_icmp .ne 7, 3) := by decide +kernel
theorem dX10_dealt_69 : decode cX10_dealt 69 = .ok (.iload_n 3, 1) := by decide +kernel
theorem dX10_dealt_70 : decode cX10_dealt 70 = .ok (.goto 11, 3) := by decide +kernel
theorem dX10_dealt_73 : decode cX10_dealt 73 = .ok (.aload_n 0, 1) := by decide +kernel
theorem dX10_dealt_74 : decode cX10_dealt 74 = .ok (.getfield 68, 3) := by decide +kernel
theorem dX10_dealt_77 : decode cX10_dealt 77 = .ok (.iload_n 2, 1) := by decide +kernel
theorem dX10_dealt_78 : decode cX10_dealt 78 = .ok (.invokevirtual 267, 3) := by decide +kernel
theorem dX10_dealt_81 : decode cX10_dealt 81 = .ok (.ireturn, 1) := by decide +kernel
theorem dX10_bounds_0 : decode cX10_bounds 0 = .ok (.iload_n 1, 1) := by decide +kernel
theorem dX10_bounds_1 : decode cX10_bounds 1 = .ok (.iconst 1, 1) := by decide +kernel
theorem dX10_bounds_2 : decode cX10_bounds 2 = .ok (.sipush 9999, 3) := by decide +kernel
theorem dX10_bounds_5 : decode cX10_bounds 5 = .ok (.invokestatic 92, 3) := by decide +kernel
theorem dX10_bounds_8 : decode cX10_bounds 8 = .ok (.ifCond .eq 31, 3) := by decide +kernel
theorem dX10_bounds_11 : decode cX10_bounds 11 = .ok (.iload_n 2, 1) := by decide +kernel
theorem dX10_bounds_12 : decode cX10_bounds 12 = .ok (.iconst 0, 1) := by decide +kernel
theorem dX10_bounds_13 : decode cX10_bounds 13 = .ok (.iload_n 1, 1) := by decide +kernel
theorem dX10_bounds_14 : decode cX10_bounds 14 = .ok (.invokestatic 92, 3) := by decide +kernel
theorem dX10_bounds_17 : decode cX10_bounds 17 = .ok (.ifCond .eq 22, 3) := by decide +kernel
theorem dX10_bounds_20 : decode cX10_bounds 20 = .ok (.iload_n 3, 1) := by decide +kernel
theorem dX10_bounds_21 : decode cX10_bounds 21 = .ok (.iconst 0, 1) := by decide +kernel
theorem dX10_bounds_22 : decode cX10_bounds 22 = .ok (.iload_n 2, 1) := by decide +kernel
theorem dX10_bounds_23 : decode cX10_bounds 23 = .ok (.invokestatic 92, 3) := by decide +kernel
theorem dX10_bounds_26 : decode cX10_bounds 26 = .ok (.ifCond .eq 13, 3) := by decide +kernel
theorem dX10_bounds_29 : decode cX10_bounds 29 = .ok (.iload 4, 2) := by decide +kernel
theorem dX10_bounds_31 : decode cX10_bounds 31 = .ok (.iconst 0, 1) := by decide +kernel
theorem dX10_bounds_32 : decode cX10_bounds 32 = .ok (.iconst 1, 1) := by decide +kernel
theorem dX10_bounds_33 : decode cX10_bounds 33 = .ok (.invokestatic 92, 3) := by decide +kernel
theorem dX10_bounds_36 : decode cX10_bounds 36 = .ok (.ifCond .ne 6, 3) := by decide +kernel
theorem dX10_bounds_39 : decode cX10_bounds 39 = .ok (.bipush (-2), 2) := by decide +kernel
theorem dX10_bounds_41 : decode cX10_bounds 41 = .ok (.ireturn, 1) := by decide +kernel
theorem dX10_bounds_42 : decode cX10_bounds 42 = .ok (.aload_n 0, 1) := by decide +kernel
theorem dX10_bounds_43 : decode cX10_bounds 43 = .ok (.getfield 84, 3) := by decide +kernel
theorem dX10_bounds_46 : decode cX10_bounds 46 = .ok (.iload 4, 2) := by decide +kernel
theorem dX10_bounds_48 : decode cX10_bounds 48 = .ok (.ifCond .ne 8, 3) := by decide +kernel
theorem dX10_bounds_51 : decode cX10_bounds 51 = .ok (.iload_n 3, 1) := by decide +kernel
theorem dX10_bounds_52 : decode cX10_bounds 52 = .ok (.i2l, 1) := by decide +kernel
theorem dX10_bounds_53 : decode cX10_bounds 53 = .ok (.goto 9, 3) := by decide +kernel
theorem dX10_bounds_56 : decode cX10_bounds 56 = .ok (.iload_n 3, 1) := by decide +kernel
theorem dX10_bounds_57 : decode cX10_bounds 57 = .ok (.iload_n 1, 1) := by decide +kernel
theorem dX10_bounds_58 : decode cX10_bounds 58 = .ok (.iadd, 1) := by decide +kernel
theorem dX10_bounds_59 : decode cX10_bounds 59 = .ok (.iload_n 2, 1) := by decide +kernel
theorem dX10_bounds_60 : decode cX10_bounds 60 = .ok (.isub, 1) := by decide +kernel
theorem dX10_bounds_61 : decode cX10_bounds 61 = .ok (.i2l, 1) := by decide +kernel
theorem dX10_bounds_62 : decode cX10_bounds 62 = .ok (.iload_n 1, 1) := by decide +kernel
theorem dX10_bounds_63 : decode cX10_bounds 63 = .ok (.i2l, 1) := by decide +kernel
theorem dX10_bounds_64 : decode cX10_bounds 64 = .ok (.invokevirtual 150, 3) := by decide +kernel
theorem dX10_bounds_67 : decode cX10_bounds 67 = .ok (.iconst 1, 1) := by decide +kernel
theorem dX10_bounds_68 : decode cX10_bounds 68 = .ok (.ireturn, 1) := by decide +kernel
theorem dX10_question_0 : decode cX10_question 0 = .ok (.iload_n 1, 1) := by decide +kernel
theorem dX10_question_1 : decode cX10_question 1 = .ok (.iconst 1, 1) := by decide +kernel
theorem dX10_question_2 : decode cX10_question 2 = .ok (.bipush 30, 2) := by decide +kernel
theorem dX10_question_4 : decode cX10_question 4 = .ok (.invokestatic 92, 3) := by decide +kernel
theorem dX10_question_7 : decode cX10_question 7 = .ok (.ifCond .eq 33, 3) := by decide +kernel
theorem dX10_question_10 : decode cX10_question 10 = .ok (.iload_n 2, 1) := by decide +kernel
theorem dX10_question_11 : decode cX10_question 11 = .ok (.invokestatic 270, 3) := by decide +kernel
theorem dX10_question_14 : decode cX10_question 14 = .ok (.ifCond .eq 26, 3) := by decide +kernel
theorem dX10_question_17 : decode cX10_question 17 = .ok (.iload_n 3, 1) := by decide +kernel
theorem dX10_question_18 : decode cX10_question 18 = .ok (.invokestatic 270, 3) := by decide +kernel
theorem dX10_question_21 : decode cX10_question 21 = .ok (.ifCond .eq 19, 3) := by decide +kernel
theorem dX10_question_24 : decode cX10_question 24 = .ok (.iload 4, 2) := by decide +kernel
theorem dX10_question_26 : decode cX10_question 26 = .ok (.invokestatic 270, 3) := by decide +kernel
theorem dX10_question_29 : decode cX10_question 29 = .ok (.ifCond .eq 11, 3) := by decide +kernel
theorem dX10_question_32 : decode cX10_question 32 = .ok (.iload 5, 2) := by decide +kernel
theorem dX10_question_34 : decode cX10_question 34 = .ok (.invokestatic 270, 3) := by decide +kernel
theorem dX10_question_37 : decode cX10_question 37 = .ok (.ifCond .ne 6, 3) := by decide +kernel
theorem dX10_question_40 : decode cX10_question 40 = .ok (.bipush (-2), 2) := by decide +kernel
theorem dX10_question_42 : decode cX10_question 42 = .ok (.ireturn, 1) := by decide +kernel
theorem dX10_question_43 : decode cX10_question 43 = .ok (.aload_n 0, 1) := by decide +kernel
theorem dX10_question_44 : decode cX10_question 44 = .ok (.getfield 77, 3) := by decide +kernel
theorem dX10_question_47 : decode cX10_question 47 = .ok (.iload_n 1, 1) := by decide +kernel
theorem dX10_question_48 : decode cX10_question 48 = .ok (.iload_n 2, 1) := by decide +kernel
theorem dX10_question_49 : decode cX10_question 49 = .ok (.iload_n 3, 1) := by decide +kernel
theorem dX10_question_50 : decode cX10_question 50 = .ok (.iload 4, 2) := by decide +kernel
theorem dX10_question_52 : decode cX10_question 52 = .ok (.iload 5, 2) := by decide +kernel
theorem dX10_question_54 : decode cX10_question 54 = .ok (.invokevirtual 273, 3) := by decide +kernel
theorem dX10_question_57 : decode cX10_question 57 = .ok (.ireturn, 1) := by decide +kernel
theorem dX10_tells_0 : decode cX10_tells 0 = .ok (.iload_n 1, 1) := by decide +kernel
theorem dX10_tells_1 : decode cX10_tells 1 = .ok (.iconst 0, 1) := by decide +kernel
theorem dX10_tells_2 : decode cX10_tells 2 = .ok (.iconst 1, 1) := by decide +kernel
theorem dX10_tells_3 : decode cX10_tells 3 = .ok (.aload_n 0, 1) := by decide +kernel
theorem dX10_tells_4 : decode cX10_tells 4 = .ok (.getfield 77, 3) := by decide +kernel
theorem dX10_tells_7 : decode cX10_tells 7 = .ok (.getfield 276, 3) := by decide +kernel
theorem dX10_tells_10 : decode cX10_tells 10 = .ok (.ishl, 1) := by decide +kernel
theorem dX10_tells_11 : decode cX10_tells 11 = .ok (.iconst 1, 1) := by decide +kernel
theorem dX10_tells_12 : decode cX10_tells 12 = .ok (.isub, 1) := by decide +kernel
theorem dX10_tells_13 : decode cX10_tells 13 = .ok (.invokestatic 92, 3) := by decide +kernel
theorem dX10_tells_16 : decode cX10_tells 16 = .ok (.ifCond .ne 6, 3) := by decide +kernel
theorem dX10_tells_19 : decode cX10_tells 19 = .ok (.bipush (-2), 2) := by decide +kernel
theorem dX10_tells_21 : decode cX10_tells 21 = .ok (.ireturn, 1) := by decide +kernel
theorem dX10_tells_22 : decode cX10_tells 22 = .ok (.aload_n 0, 1) := by decide +kernel
theorem dX10_tells_23 : decode cX10_tells 23 = .ok (.getfield 84, 3) := by decide +kernel
theorem dX10_tells_26 : decode cX10_tells 26 = .ok (.aload_n 0, 1) := by decide +kernel
theorem dX10_tells_27 : decode cX10_tells 27 = .ok (.getfield 77, 3) := by decide +kernel
theorem dX10_tells_30 : decode cX10_tells 30 = .ok (.iload_n 1, 1) := by decide +kernel
theorem dX10_tells_31 : decode cX10_tells 31 = .ok (.invokevirtual 279, 3) := by decide +kernel
theorem dX10_tells_34 : decode cX10_tells 34 = .ok (.aload_n 0, 1) := by decide +kernel
theorem dX10_tells_35 : decode cX10_tells 35 = .ok (.getfield 77, 3) := by decide +kernel
theorem dX10_tells_38 : decode cX10_tells 38 = .ok (.iload_n 1, 1) := by decide +kernel
theorem dX10_tells_39 : decode cX10_tells 39 = .ok (.invokevirtual 283, 3) := by decide +kernel
theorem dX10_tells_42 : decode cX10_tells 42 = .ok (.invokevirtual 150, 3) := by decide +kernel
theorem dX10_tells_45 : decode cX10_tells 45 = .ok (.iconst 1, 1) := by decide +kernel
theorem dX10_tells_46 : decode cX10_tells 46 = .ok (.ireturn, 1) := by decide +kernel
theorem dX10_form_0 : decode cX10_form 0 = .ok (.iload_n 1, 1) := by decide +kernel
theorem dX10_form_1 : decode cX10_form 1 = .ok (.iconst 0, 1) := by decide +kernel
theorem dX10_form_2 : decode cX10_form 2 = .ok (.sipush 200, 3) := by decide +kernel
theorem dX10_form_5 : decode cX10_form 5 = .ok (.invokestatic 92, 3) := by decide +kernel
theorem dX10_form_8 : decode cX10_form 8 = .ok (.ifCond .ne 6, 3) := by decide +kernel
theorem dX10_form_11 : decode cX10_form 11 = .ok (.bipush (-2), 2) := by decide +kernel
theorem dX10_form_13 : decode cX10_form 13 = .ok (.ireturn, 1) := by decide +kernel
theorem dX10_form_14 : decode cX10_form 14 = .ok (.aload_n 0, 1) := by decide +kernel
theorem dX10_form_15 : decode cX10_form 15 = .ok (.getfield 77, 3) := by decide +kernel
theorem dX10_form_18 : decode cX10_form 18 = .ok (.iload_n 1, 1) := by decide +kernel
theorem dX10_form_19 : decode cX10_form 19 = .ok (.invokevirtual 286, 3) := by decide +kernel
theorem dX10_form_22 : decode cX10_form 22 = .ok (.ireturn, 1) := by decide +kernel
theorem dX10_sign_0 : decode cX10_sign 0 = .ok (.iload_n 1, 1) := by decide +kernel
theorem dX10_sign_1 : decode cX10_sign 1 = .ok (.iconst 0, 1) := by decide +kernel
theorem dX10_sign_2 : decode cX10_sign 2 = .ok (.iconst 2, 1) := by decide +kernel
theorem dX10_sign_3 : decode cX10_sign 3 = .ok (.invokestatic 92, 3) := by decide +kernel
theorem dX10_sign_6 : decode cX10_sign 6 = .ok (.ifCond .ne 6, 3) := by decide +kernel
theorem dX10_sign_9 : decode cX10_sign 9 = .ok (.bipush (-2), 2) := by decide +kernel
theorem dX10_sign_11 : decode cX10_sign 11 = .ok (.ireturn, 1) := by decide +kernel
theorem dX10_sign_12 : decode cX10_sign 12 = .ok (.iload_n 1, 1) := by decide +kernel
theorem dX10_sign_13 : decode cX10_sign 13 = .ok (.ifCond .ne 22, 3) := by decide +kernel
theorem dX10_sign_16 : decode cX10_sign 16 = .ok (.aload_n 0, 1) := by decide +kernel
theorem dX10_sign_17 : decode cX10_sign 17 = .ok (.getfield 84, 3) := by decide +kernel
theorem dX10_sign_20 : decode cX10_sign 20 = .ok (.getfield 289, 3) := by decide +kernel
theorem dX10_sign_23 : decode cX10_sign 23 = .ok (.getfield 292, 3) := by decide +kernel
theorem dX10_sign_26 : decode cX10_sign 26 = .ok (.ifCond .ne 7, 3) := by decide +kernel
theorem dX10_sign_29 : decode cX10_sign 29 = .ok (.iconst 0, 1) := by decide +kernel
theorem dX10_sign_30 : decode cX10_sign 30 = .ok (.goto 4, 3) := by decide +kernel
theorem dX10_sign_33 : decode cX10_sign 33 = .ok (.iconst 1, 1) := by decide +kernel
theorem dX10_sign_34 : decode cX10_sign 34 = .ok (.ireturn, 1) := by decide +kernel
theorem dX10_sign_35 : decode cX10_sign 35 = .ok (.iload_n 1, 1) := by decide +kernel
theorem dX10_sign_36 : decode cX10_sign 36 = .ok (.iconst 1, 1) := by decide +kernel
theorem dX10_sign_37 : decode cX10_sign 37 = .ok (.if_icmp .ne 16, 3) := by decide +kernel
theorem dX10_sign_40 : decode cX10_sign 40 = .ok (.aload_n 0, 1) := by decide +kernel
theorem dX10_sign_41 : decode cX10_sign 41 = .ok (.getfield 84, 3) := by decide +kernel
theorem dX10_sign_44 : decode cX10_sign 44 = .ok (.getfield 289, 3) := by decide +kernel
theorem dX10_sign_47 : decode cX10_sign 47 = .ok (.getfield 292, 3) := by decide +kernel
theorem dX10_sign_50 : decode cX10_sign 50 = .ok (.goto 13, 3) := by decide +kernel
theorem dX10_sign_53 : decode cX10_sign 53 = .ok (.aload_n 0, 1) := by decide +kernel
theorem dX10_sign_54 : decode cX10_sign 54 = .ok (.getfield 84, 3) := by decide +kernel
theorem dX10_sign_57 : decode cX10_sign 57 = .ok (.getfield 295, 3) := by decide +kernel
theorem dX10_sign_60 : decode cX10_sign 60 = .ok (.getfield 292, 3) := by decide +kernel
theorem dX10_sign_63 : decode cX10_sign 63 = .ok (.ireturn, 1) := by decide +kernel
theorem dX10_limb_0 : decode cX10_limb 0 = .ok (.iload_n 1, 1) := by decide +kernel
theorem dX10_limb_1 : decode cX10_limb 1 = .ok (.iconst 0, 1) := by decide +kernel
theorem dX10_limb_2 : decode cX10_limb 2 = .ok (.iconst 1, 1) := by decide +kernel
theorem dX10_limb_3 : decode cX10_limb 3 = .ok (.invokestatic 92, 3) := by decide +kernel
theorem dX10_limb_6 : decode cX10_limb 6 = .ok (.ifCond .eq 7, 3) := by decide +kernel
theorem dX10_limb_9 : decode cX10_limb 9 = .ok (.iload_n 2, 1) := by decide +kernel
theorem dX10_limb_10 : decode cX10_limb 10 = .ok (.ifCond .ge 6, 3) := by decide +kernel
theorem dX10_limb_13 : decode cX10_limb 13 = .ok (.bipush (-2), 2) := by decide +kernel
theorem dX10_limb_15 : decode cX10_limb 15 = .ok (.ireturn, 1) := by decide +kernel
theorem dX10_limb_16 : decode cX10_limb 16 = .ok (.iload_n 1, 1) := by decide +kernel
theorem dX10_limb_17 : decode cX10_limb 17 = .ok (.ifCond .ne 13, 3) := by decide +kernel
theorem dX10_limb_20 : decode cX10_limb 20 = .ok (.aload_n 0, 1) := by decide +kernel
theorem dX10_limb_21 : decode cX10_limb 21 = .ok (.getfield 84, 3) := by decide +kernel
theorem dX10_limb_24 : decode cX10_limb 24 = .ok (.getfield 289, 3) := by decide +kernel
theorem dX10_limb_27 : decode cX10_limb 27 = .ok (.goto 10, 3) := by decide +kernel
theorem dX10_limb_30 : decode cX10_limb 30 = .ok (.aload_n 0, 1) := by decide +kernel
theorem dX10_limb_31 : decode cX10_limb 31 = .ok (.getfield 84, 3) := by decide +kernel
theorem dX10_limb_34 : decode cX10_limb 34 = .ok (.getfield 295, 3) := by decide +kernel
theorem dX10_limb_37 : decode cX10_limb 37 = .ok (.astore_n 3, 1) := by decide +kernel
theorem dX10_limb_38 : decode cX10_limb 38 = .ok (.iload_n 2, 1) := by decide +kernel
theorem dX10_limb_39 : decode cX10_limb 39 = .ok (.aload_n 3, 1) := by decide +kernel
theorem dX10_limb_40 : decode cX10_limb 40 = .ok (.getfield 292, 3) := by decide +kernel
theorem dX10_limb_43 : decode cX10_limb 43 = .ok (.if_icmp .ge 12, 3) := by decide +kernel
theorem dX10_limb_46 : decode cX10_limb 46 = .ok (.aload_n 3, 1) := by decide +kernel
theorem dX10_limb_47 : decode cX10_limb 47 = .ok (.getfield 298, 3) := by decide +kernel
theorem dX10_limb_50 : decode cX10_limb 50 = .ok (.iload_n 2, 1) := by decide +kernel
theorem dX10_limb_51 : decode cX10_limb 51 = .ok (.iaload, 1) := by decide +kernel
theorem dX10_limb_52 : decode cX10_limb 52 = .ok (.goto 4, 3) := by decide +kernel
theorem dX10_limb_55 : decode cX10_limb 55 = .ok (.iconst (-1), 1) := by decide +kernel
theorem dX10_limb_56 : decode cX10_limb 56 = .ok (.ireturn, 1) := by decide +kernel
theorem dX10_count_0 : decode cX10_count 0 = .ok (.iload_n 1, 1) := by decide +kernel
theorem dX10_count_1 : decode cX10_count 1 = .ok (.tableswitch 87 0 5 #[39, 47, 55, 63, 71, 79], 39) := by decide +kernel
theorem dX10_count_40 : decode cX10_count 40 = .ok (.aload_n 0, 1) := by decide +kernel
theorem dX10_count_41 : decode cX10_count 41 = .ok (.getfield 10, 3) := by decide +kernel
theorem dX10_count_44 : decode cX10_count 44 = .ok (.getfield 176, 3) := by decide +kernel
theorem dX10_count_47 : decode cX10_count 47 = .ok (.ireturn, 1) := by decide +kernel
theorem dX10_count_48 : decode cX10_count 48 = .ok (.aload_n 0, 1) := by decide +kernel
theorem dX10_count_49 : decode cX10_count 49 = .ok (.getfield 10, 3) := by decide +kernel
theorem dX10_count_52 : decode cX10_count 52 = .ok (.getfield 301, 3) := by decide +kernel
theorem dX10_count_55 : decode cX10_count 55 = .ok (.ireturn, 1) := by decide +kernel
theorem dX10_count_56 : decode cX10_count 56 = .ok (.aload_n 0, 1) := by decide +kernel
theorem dX10_count_57 : decode cX10_count 57 = .ok (.getfield 10, 3) := by decide +kernel
theorem dX10_count_60 : decode cX10_count 60 = .ok (.getfield 244, 3) := by decide +kernel
theorem dX10_count_63 : decode cX10_count 63 = .ok (.ireturn, 1) := by decide +kernel
theorem dX10_count_64 : decode cX10_count 64 = .ok (.aload_n 0, 1) := by decide +kernel
theorem dX10_count_65 : decode cX10_count 65 = .ok (.getfield 10, 3) := by decide +kernel
theorem dX10_count_68 : decode cX10_count 68 = .ok (.getfield 256, 3) := by decide +kernel
theorem dX10_count_71 : decode cX10_count 71 = .ok (.ireturn, 1) := by decide +kernel
theorem dX10_count_72 : decode cX10_count 72 = .ok (.aload_n 0, 1) := by decide +kernel
theorem dX10_count_73 : decode cX10_count 73 = .ok (.getfield 61, 3) := by decide +kernel
theorem dX10_count_76 : decode cX10_count 76 = .ok (.getfield 304, 3) := by decide +kernel
theorem dX10_count_79 : decode cX10_count 79 = .ok (.ireturn, 1) := by decide +kernel
theorem dX10_count_80 : decode cX10_count 80 = .ok (.aload_n 0, 1) := by decide +kernel
theorem dX10_count_81 : decode cX10_count 81 = .ok (.getfield 77, 3) := by decide +kernel
theorem dX10_count_84 : decode cX10_count 84 = .ok (.getfield 276, 3) := by decide +kernel
theorem dX10_count_87 : decode cX10_count 87 = .ok (.ireturn, 1) := by decide +kernel
theorem dX10_count_88 : decode cX10_count 88 = .ok (.bipush (-2), 2) := by decide +kernel
theorem dX10_count_90 : decode cX10_count 90 = .ok (.ireturn, 1) := by decide +kernel
theorem dX10_digest_0 : decode cX10_digest 0 = .ok (.ldc2_w 305, 3) := by decide +kernel
theorem dX10_digest_3 : decode cX10_digest 3 = .ok (.lstore_n 1, 1) := by decide +kernel
theorem dX10_digest_4 : decode cX10_digest 4 = .ok (.iconst 0, 1) := by decide +kernel
theorem dX10_digest_5 : decode cX10_digest 5 = .ok (.istore_n 3, 1) := by decide +kernel
theorem dX10_digest_6 : decode cX10_digest 6 = .ok (.iload_n 3, 1) := by decide +kernel
theorem dX10_digest_7 : decode cX10_digest 7 = .ok (.iconst 5, 1) := by decide +kernel
theorem dX10_digest_8 : decode cX10_digest 8 = .ok (.if_icmp .gt 22, 3) := by decide +kernel
theorem dX10_digest_11 : decode cX10_digest 11 = .ok (.ldc2_w 307, 3) := by decide +kernel
theorem dX10_digest_14 : decode cX10_digest 14 = .ok (.lload_n 1, 1) := by decide +kernel
theorem dX10_digest_15 : decode cX10_digest 15 = .ok (.lmul, 1) := by decide +kernel
theorem dX10_digest_16 : decode cX10_digest 16 = .ok (.aload_n 0, 1) := by decide +kernel
theorem dX10_digest_17 : decode cX10_digest 17 = .ok (.iload_n 3, 1) := by decide +kernel
theorem dX10_digest_18 : decode cX10_digest 18 = .ok (.invokevirtual 309, 3) := by decide +kernel
theorem dX10_digest_21 : decode cX10_digest 21 = .ok (.i2l, 1) := by decide +kernel
theorem dX10_digest_22 : decode cX10_digest 22 = .ok (.ladd, 1) := by decide +kernel
theorem dX10_digest_23 : decode cX10_digest 23 = .ok (.lstore_n 1, 1) := by decide +kernel
theorem dX10_digest_24 : decode cX10_digest 24 = .ok (.iinc 3 1, 3) := by decide +kernel
theorem dX10_digest_27 : decode cX10_digest 27 = .ok (.goto (-21), 3) := by decide +kernel
theorem dX10_digest_30 : decode cX10_digest 30 = .ok (.aload_n 0, 1) := by decide +kernel
theorem dX10_digest_31 : decode cX10_digest 31 = .ok (.getfield 10, 3) := by decide +kernel
theorem dX10_digest_34 : decode cX10_digest 34 = .ok (.lload_n 1, 1) := by decide +kernel
theorem dX10_digest_35 : decode cX10_digest 35 = .ok (.invokevirtual 312, 3) := by decide +kernel
theorem dX10_digest_38 : decode cX10_digest 38 = .ok (.lstore_n 1, 1) := by decide +kernel
theorem dX10_digest_39 : decode cX10_digest 39 = .ok (.lload_n 1, 1) := by decide +kernel
theorem dX10_digest_40 : decode cX10_digest 40 = .ok (.aload_n 0, 1) := by decide +kernel
theorem dX10_digest_41 : decode cX10_digest 41 = .ok (.getfield 25, 3) := by decide +kernel
theorem dX10_digest_44 : decode cX10_digest 44 = .ok (.iconst 4, 1) := by decide +kernel
theorem dX10_digest_45 : decode cX10_digest 45 = .ok (.invokestatic 316, 3) := by decide +kernel
theorem dX10_digest_48 : decode cX10_digest 48 = .ok (.lstore_n 1, 1) := by decide +kernel
theorem dX10_digest_49 : decode cX10_digest 49 = .ok (.aload_n 0, 1) := by decide +kernel
theorem dX10_digest_50 : decode cX10_digest 50 = .ok (.getfield 61, 3) := by decide +kernel
theorem dX10_digest_53 : decode cX10_digest 53 = .ok (.lload_n 1, 1) := by decide +kernel
theorem dX10_digest_54 : decode cX10_digest 54 = .ok (.invokevirtual 320, 3) := by decide +kernel
theorem dX10_digest_57 : decode cX10_digest 57 = .ok (.lstore_n 1, 1) := by decide +kernel
theorem dX10_digest_58 : decode cX10_digest 58 = .ok (.lload_n 1, 1) := by decide +kernel
theorem dX10_digest_59 : decode cX10_digest 59 = .ok (.aload_n 0, 1) := by decide +kernel
theorem dX10_digest_60 : decode cX10_digest 60 = .ok (.getfield 68, 3) := by decide +kernel
theorem dX10_digest_63 : decode cX10_digest 63 = .ok (.getfield 253, 3) := by decide +kernel
theorem dX10_digest_66 : decode cX10_digest 66 = .ok (.bipush 6, 2) := by decide +kernel
theorem dX10_digest_68 : decode cX10_digest 68 = .ok (.invokestatic 316, 3) := by decide +kernel
theorem dX10_digest_71 : decode cX10_digest 71 = .ok (.lstore_n 1, 1) := by decide +kernel
theorem dX10_digest_72 : decode cX10_digest 72 = .ok (.aload_n 0, 1) := by decide +kernel
theorem dX10_digest_73 : decode cX10_digest 73 = .ok (.getfield 77, 3) := by decide +kernel
theorem dX10_digest_76 : decode cX10_digest 76 = .ok (.lload_n 1, 1) := by decide +kernel
theorem dX10_digest_77 : decode cX10_digest 77 = .ok (.invokevirtual 321, 3) := by decide +kernel
theorem dX10_digest_80 : decode cX10_digest 80 = .ok (.lstore_n 1, 1) := by decide +kernel
theorem dX10_digest_81 : decode cX10_digest 81 = .ok (.ldc2_w 307, 3) := by decide +kernel
theorem dX10_digest_84 : decode cX10_digest 84 = .ok (.lload_n 1, 1) := by decide +kernel
theorem dX10_digest_85 : decode cX10_digest 85 = .ok (.lmul, 1) := by decide +kernel
theorem dX10_digest_86 : decode cX10_digest 86 = .ok (.aload_n 0, 1) := by decide +kernel
theorem dX10_digest_87 : decode cX10_digest 87 = .ok (.iconst (-1), 1) := by decide +kernel
theorem dX10_digest_88 : decode cX10_digest 88 = .ok (.invokevirtual 322, 3) := by decide +kernel
theorem dX10_digest_91 : decode cX10_digest 91 = .ok (.i2l, 1) := by decide +kernel
theorem dX10_digest_92 : decode cX10_digest 92 = .ok (.ladd, 1) := by decide +kernel
theorem dX10_digest_93 : decode cX10_digest 93 = .ok (.lstore_n 1, 1) := by decide +kernel
theorem dX10_digest_94 : decode cX10_digest 94 = .ok (.iconst 0, 1) := by decide +kernel
theorem dX10_digest_95 : decode cX10_digest 95 = .ok (.istore_n 3, 1) := by decide +kernel
theorem dX10_digest_96 : decode cX10_digest 96 = .ok (.iload_n 3, 1) := by decide +kernel
theorem dX10_digest_97 : decode cX10_digest 97 = .ok (.iconst 2, 1) := by decide +kernel
theorem dX10_digest_98 : decode cX10_digest 98 = .ok (.if_icmp .gt 22, 3) := by decide +kernel
theorem dX10_digest_101 : decode cX10_digest 101 = .ok (.ldc2_w 307, 3) := by decide +kernel
theorem dX10_digest_104 : decode cX10_digest 104 = .ok (.lload_n 1, 1) := by decide +kernel
theorem dX10_digest_105 : decode cX10_digest 105 = .ok (.lmul, 1) := by decide +kernel
theorem dX10_digest_106 : decode cX10_digest 106 = .ok (.aload_n 0, 1) := by decide +kernel
theorem dX10_digest_107 : decode cX10_digest 107 = .ok (.iload_n 3, 1) := by decide +kernel
theorem dX10_digest_108 : decode cX10_digest 108 = .ok (.invokevirtual 325, 3) := by decide +kernel
theorem dX10_digest_111 : decode cX10_digest 111 = .ok (.i2l, 1) := by decide +kernel
theorem dX10_digest_112 : decode cX10_digest 112 = .ok (.ladd, 1) := by decide +kernel
theorem dX10_digest_113 : decode cX10_digest 113 = .ok (.lstore_n 1, 1) := by decide +kernel
theorem dX10_digest_114 : decode cX10_digest 114 = .ok (.iinc 3 1, 3) := by decide +kernel
theorem dX10_digest_117 : decode cX10_digest 117 = .ok (.goto (-21), 3) := by decide +kernel
theorem dX10_digest_120 : decode cX10_digest 120 = .ok (.lload_n 1, 1) := by decide +kernel
theorem dX10_digest_121 : decode cX10_digest 121 = .ok (.aload_n 0, 1) := by decide +kernel
theorem dX10_digest_122 : decode cX10_digest 122 = .ok (.getfield 84, 3) := by decide +kernel
theorem dX10_digest_125 : decode cX10_digest 125 = .ok (.getfield 289, 3) := by decide +kernel
theorem dX10_digest_128 : decode cX10_digest 128 = .ok (.getfield 298, 3) := by decide +kernel
theorem dX10_digest_131 : decode cX10_digest 131 = .ok (.aload_n 0, 1) := by decide +kernel
theorem dX10_digest_132 : decode cX10_digest 132 = .ok (.getfield 84, 3) := by decide +kernel
theorem dX10_digest_135 : decode cX10_digest 135 = .ok (.getfield 289, 3) := by decide +kernel
theorem dX10_digest_138 : decode cX10_digest 138 = .ok (.getfield 292, 3) := by decide +kernel
theorem dX10_digest_141 : decode cX10_digest 141 = .ok (.invokestatic 316, 3) := by decide +kernel
theorem dX10_digest_144 : decode cX10_digest 144 = .ok (.lstore_n 1, 1) := by decide +kernel
theorem dX10_digest_145 : decode cX10_digest 145 = .ok (.lload_n 1, 1) := by decide +kernel
theorem dX10_digest_146 : decode cX10_digest 146 = .ok (.aload_n 0, 1) := by decide +kernel
theorem dX10_digest_147 : decode cX10_digest 147 = .ok (.getfield 84, 3) := by decide +kernel
theorem dX10_digest_150 : decode cX10_digest 150 = .ok (.getfield 295, 3) := by decide +kernel
theorem dX10_digest_153 : decode cX10_digest 153 = .ok (.getfield 298, 3) := by decide +kernel
theorem dX10_digest_156 : decode cX10_digest 156 = .ok (.aload_n 0, 1) := by decide +kernel
theorem dX10_digest_157 : decode cX10_digest 157 = .ok (.getfield 84, 3) := by decide +kernel
theorem dX10_digest_160 : decode cX10_digest 160 = .ok (.getfield 295, 3) := by decide +kernel
theorem dX10_digest_163 : decode cX10_digest 163 = .ok (.getfield 292, 3) := by decide +kernel
theorem dX10_digest_166 : decode cX10_digest 166 = .ok (.invokestatic 316, 3) := by decide +kernel
theorem dX10_digest_169 : decode cX10_digest 169 = .ok (.lreturn, 1) := by decide +kernel
theorem dX10_digestOfRow_0 : decode cX10_digestOfRow 0 = .ok (.lload_n 0, 1) := by decide +kernel
theorem dX10_digestOfRow_1 : decode cX10_digestOfRow 1 = .ok (.lstore 4, 2) := by decide +kernel
theorem dX10_digestOfRow_3 : decode cX10_digestOfRow 3 = .ok (.iconst 0, 1) := by decide +kernel
theorem dX10_digestOfRow_4 : decode cX10_digestOfRow 4 = .ok (.istore 6, 2) := by decide +kernel
theorem dX10_digestOfRow_6 : decode cX10_digestOfRow 6 = .ok (.iload 6, 2) := by decide +kernel
theorem dX10_digestOfRow_8 : decode cX10_digestOfRow 8 = .ok (.iload_n 3, 1) := by decide +kernel
theorem dX10_digestOfRow_9 : decode cX10_digestOfRow 9 = .ok (.if_icmp .ge 30, 3) := by decide +kernel
theorem dX10_digestOfRow_12 : decode cX10_digestOfRow 12 = .ok (.iload 6, 2) := by decide +kernel
theorem dX10_digestOfRow_14 : decode cX10_digestOfRow 14 = .ok (.aload_n 2, 1) := by decide +kernel
theorem dX10_digestOfRow_15 : decode cX10_digestOfRow 15 = .ok (.arraylength, 1) := by decide +kernel
theorem dX10_digestOfRow_16 : decode cX10_digestOfRow 16 = .ok (.if_icmp .ge 23, 3) := by decide +kernel
theorem dX10_digestOfRow_19 : decode cX10_digestOfRow 19 = .ok (.ldc2_w 307, 3) := by decide +kernel
theorem dX10_digestOfRow_22 : decode cX10_digestOfRow 22 = .ok (.lload 4, 2) := by decide +kernel
theorem dX10_digestOfRow_24 : decode cX10_digestOfRow 24 = .ok (.lmul, 1) := by decide +kernel
theorem dX10_digestOfRow_25 : decode cX10_digestOfRow 25 = .ok (.aload_n 2, 1) := by decide +kernel
theorem dX10_digestOfRow_26 : decode cX10_digestOfRow 26 = .ok (.iload 6, 2) := by decide +kernel
theorem dX10_digestOfRow_28 : decode cX10_digestOfRow 28 = .ok (.iaload, 1) := by decide +kernel
theorem dX10_digestOfRow_29 : decode cX10_digestOfRow 29 = .ok (.i2l, 1) := by decide +kernel
theorem dX10_digestOfRow_30 : decode cX10_digestOfRow 30 = .ok (.ladd, 1) := by decide +kernel
theorem dX10_digestOfRow_31 : decode cX10_digestOfRow 31 = .ok (.lstore 4, 2) := by decide +kernel
theorem dX10_digestOfRow_33 : decode cX10_digestOfRow 33 = .ok (.iinc 6 1, 3) := by decide +kernel
theorem dX10_digestOfRow_36 : decode cX10_digestOfRow 36 = .ok (.goto (-30), 3) := by decide +kernel
theorem dX10_digestOfRow_39 : decode cX10_digestOfRow 39 = .ok (.lload 4, 2) := by decide +kernel
theorem dX10_digestOfRow_41 : decode cX10_digestOfRow 41 = .ok (.lreturn, 1) := by decide +kernel
theorem dX10_within_0 : decode cX10_within 0 = .ok (.iload_n 0, 1) := by decide +kernel
theorem dX10_within_1 : decode cX10_within 1 = .ok (.iload_n 1, 1) := by decide +kernel
theorem dX10_within_2 : decode cX10_within 2 = .ok (.if_icmp .lt 12, 3) := by decide +kernel
theorem dX10_within_5 : decode cX10_within 5 = .ok (.iload_n 0, 1) := by decide +kernel
theorem dX10_within_6 : decode cX10_within 6 = .ok (.iload_n 2, 1) := by decide +kernel
theorem dX10_within_7 : decode cX10_within 7 = .ok (.if_icmp .gt 7, 3) := by decide +kernel
theorem dX10_within_10 : decode cX10_within 10 = .ok (.iconst 1, 1) := by decide +kernel
theorem dX10_within_11 : decode cX10_within 11 = .ok (.goto 4, 3) := by decide +kernel
theorem dX10_within_14 : decode cX10_within 14 = .ok (.iconst 0, 1) := by decide +kernel
theorem dX10_within_15 : decode cX10_within 15 = .ok (.ireturn, 1) := by decide +kernel
theorem dX10_isRank_0 : decode cX10_isRank 0 = .ok (.iload_n 0, 1) := by decide +kernel
theorem dX10_isRank_1 : decode cX10_isRank 1 = .ok (.iconst 0, 1) := by decide +kernel
theorem dX10_isRank_2 : decode cX10_isRank 2 = .ok (.bipush 9, 2) := by decide +kernel
theorem dX10_isRank_4 : decode cX10_isRank 4 = .ok (.invokestatic 92, 3) := by decide +kernel
theorem dX10_isRank_7 : decode cX10_isRank 7 = .ok (.ireturn, 1) := by decide +kernel
theorem dX10_isYear_0 : decode cX10_isYear 0 = .ok (.iload_n 0, 1) := by decide +kernel
theorem dX10_isYear_1 : decode cX10_isYear 1 = .ok (.iconst 0, 1) := by decide +kernel
theorem dX10_isYear_2 : decode cX10_isYear 2 = .ok (.bipush 39, 2) := by decide +kernel
theorem dX10_isYear_4 : decode cX10_isYear 4 = .ok (.invokestatic 92, 3) := by decide +kernel
theorem dX10_isYear_7 : decode cX10_isYear 7 = .ok (.ireturn, 1) := by decide +kernel
theorem dX10_isGift_0 : decode cX10_isGift 0 = .ok (.iload_n 0, 1) := by decide +kernel
theorem dX10_isGift_1 : decode cX10_isGift 1 = .ok (.iconst 0, 1) := by decide +kernel
theorem dX10_isGift_2 : decode cX10_isGift 2 = .ok (.iconst 3, 1) := by decide +kernel
theorem dX10_isGift_3 : decode cX10_isGift 3 = .ok (.invokestatic 92, 3) := by decide +kernel
theorem dX10_isGift_6 : decode cX10_isGift 6 = .ok (.ireturn, 1) := by decide +kernel
theorem dX10_isPercent_0 : decode cX10_isPercent 0 = .ok (.iload_n 0, 1) := by decide +kernel
theorem dX10_isPercent_1 : decode cX10_isPercent 1 = .ok (.iconst 0, 1) := by decide +kernel
theorem dX10_isPercent_2 : decode cX10_isPercent 2 = .ok (.bipush 100, 2) := by decide +kernel
theorem dX10_isPercent_4 : decode cX10_isPercent 4 = .ok (.invokestatic 92, 3) := by decide +kernel
theorem dX10_isPercent_7 : decode cX10_isPercent 7 = .ok (.ireturn, 1) := by decide +kernel
theorem dX10_isWord_0 : decode cX10_isWord 0 = .ok (.iload_n 1, 1) := by decide +kernel
theorem dX10_isWord_1 : decode cX10_isWord 1 = .ok (.iconst 0, 1) := by decide +kernel
theorem dX10_isWord_2 : decode cX10_isWord 2 = .ok (.aload_n 0, 1) := by decide +kernel
theorem dX10_isWord_3 : decode cX10_isWord 3 = .ok (.getfield 10, 3) := by decide +kernel
theorem dX10_isWord_6 : decode cX10_isWord 6 = .ok (.getfield 176, 3) := by decide +kernel
theorem dX10_isWord_9 : decode cX10_isWord 9 = .ok (.iconst 1, 1) := by decide +kernel
theorem dX10_isWord_10 : decode cX10_isWord 10 = .ok (.isub, 1) := by decide +kernel
theorem dX10_isWord_11 : decode cX10_isWord 11 = .ok (.invokestatic 92, 3) := by decide +kernel
theorem dX10_isWord_14 : decode cX10_isWord 14 = .ok (.ireturn, 1) := by decide +kernel
theorem dX10_isHand_0 : decode cX10_isHand 0 = .ok (.iload_n 1, 1) := by decide +kernel
theorem dX10_isHand_1 : decode cX10_isHand 1 = .ok (.iconst 0, 1) := by decide +kernel
theorem dX10_isHand_2 : decode cX10_isHand 2 = .ok (.aload_n 0, 1) := by decide +kernel
theorem dX10_isHand_3 : decode cX10_isHand 3 = .ok (.getfield 10, 3) := by decide +kernel
theorem dX10_isHand_6 : decode cX10_isHand 6 = .ok (.getfield 301, 3) := by decide +kernel
theorem dX10_isHand_9 : decode cX10_isHand 9 = .ok (.iconst 1, 1) := by decide +kernel
theorem dX10_isHand_10 : decode cX10_isHand 10 = .ok (.isub, 1) := by decide +kernel
theorem dX10_isHand_11 : decode cX10_isHand 11 = .ok (.invokestatic 92, 3) := by decide +kernel
theorem dX10_isHand_14 : decode cX10_isHand 14 = .ok (.ireturn, 1) := by decide +kernel
theorem dX10_isPupil_0 : decode cX10_isPupil 0 = .ok (.iload_n 1, 1) := by decide +kernel
theorem dX10_isPupil_1 : decode cX10_isPupil 1 = .ok (.iconst 0, 1) := by decide +kernel
theorem dX10_isPupil_2 : decode cX10_isPupil 2 = .ok (.aload_n 0, 1) := by decide +kernel
theorem dX10_isPupil_3 : decode cX10_isPupil 3 = .ok (.getfield 10, 3) := by decide +kernel
theorem dX10_isPupil_6 : decode cX10_isPupil 6 = .ok (.getfield 244, 3) := by decide +kernel
theorem dX10_isPupil_9 : decode cX10_isPupil 9 = .ok (.iconst 1, 1) := by decide +kernel
theorem dX10_isPupil_10 : decode cX10_isPupil 10 = .ok (.isub, 1) := by decide +kernel
theorem dX10_isPupil_11 : decode cX10_isPupil 11 = .ok (.invokestatic 92, 3) := by decide +kernel
theorem dX10_isPupil_14 : decode cX10_isPupil 14 = .ok (.ireturn, 1) := by decide +kernel
theorem dX10_isLetter_0 : decode cX10_isLetter 0 = .ok (.iload_n 1, 1) := by decide +kernel
theorem dX10_isLetter_1 : decode cX10_isLetter 1 = .ok (.iconst 0, 1) := by decide +kernel
theorem dX10_isLetter_2 : decode cX10_isLetter 2 = .ok (.aload_n 0, 1) := by decide +kernel
theorem dX10_isLetter_3 : decode cX10_isLetter 3 = .ok (.getfield 10, 3) := by decide +kernel
theorem dX10_isLetter_6 : decode cX10_isLetter 6 = .ok (.getfield 256, 3) := by decide +kernel
theorem dX10_isLetter_9 : decode cX10_isLetter 9 = .ok (.iconst 1, 1) := by decide +kernel
theorem dX10_isLetter_10 : decode cX10_isLetter 10 = .ok (.isub, 1) := by decide +kernel
theorem dX10_isLetter_11 : decode cX10_isLetter 11 = .ok (.invokestatic 92, 3) := by decide +kernel
theorem dX10_isLetter_14 : decode cX10_isLetter 14 = .ok (.ireturn, 1) := by decide +kernel
theorem dX10_choices_0 : decode cX10_choices 0 = .ok (.iload_n 1, 1) := by decide +kernel
theorem dX10_choices_1 : decode cX10_choices 1 = .ok (.ifCond .lt 8, 3) := by decide +kernel
theorem dX10_choices_4 : decode cX10_choices 4 = .ok (.iload_n 1, 1) := by decide +kernel
theorem dX10_choices_5 : decode cX10_choices 5 = .ok (.iload_n 0, 1) := by decide +kernel
theorem dX10_choices_6 : decode cX10_choices 6 = .ok (.if_icmp .le 5, 3) := by decide +kernel
theorem dX10_choices_9 : decode cX10_choices 9 = .ok (.lconst 0, 1) := by decide +kernel
theorem dX10_choices_10 : decode cX10_choices 10 = .ok (.lreturn, 1) := by decide +kernel
theorem dX10_choices_11 : decode cX10_choices 11 = .ok (.lconst 1, 1) := by decide +kernel
theorem dX10_choices_12 : decode cX10_choices 12 = .ok (.lstore_n 2, 1) := by decide +kernel
theorem dX10_choices_13 : decode cX10_choices 13 = .ok (.iconst 1, 1) := by decide +kernel
theorem dX10_choices_14 : decode cX10_choices 14 = .ok (.istore 4, 2) := by decide +kernel
theorem dX10_choices_16 : decode cX10_choices 16 = .ok (.iload 4, 2) := by decide +kernel
theorem dX10_choices_18 : decode cX10_choices 18 = .ok (.iload_n 1, 1) := by decide +kernel
theorem dX10_choices_19 : decode cX10_choices 19 = .ok (.if_icmp .gt 23, 3) := by decide +kernel
theorem dX10_choices_22 : decode cX10_choices 22 = .ok (.lload_n 2, 1) := by decide +kernel
theorem dX10_choices_23 : decode cX10_choices 23 = .ok (.iload_n 0, 1) := by decide +kernel
theorem dX10_choices_24 : decode cX10_choices 24 = .ok (.iload_n 1, 1) := by decide +kernel
theorem dX10_choices_25 : decode cX10_choices 25 = .ok (.isub, 1) := by decide +kernel
theorem dX10_choices_26 : decode cX10_choices 26 = .ok (.iload 4, 2) := by decide +kernel
theorem dX10_choices_28 : decode cX10_choices 28 = .ok (.iadd, 1) := by decide +kernel
theorem dX10_choices_29 : decode cX10_choices 29 = .ok (.i2l, 1) := by decide +kernel
theorem dX10_choices_30 : decode cX10_choices 30 = .ok (.lmul, 1) := by decide +kernel
theorem dX10_choices_31 : decode cX10_choices 31 = .ok (.iload 4, 2) := by decide +kernel
theorem dX10_choices_33 : decode cX10_choices 33 = .ok (.i2l, 1) := by decide +kernel
theorem dX10_choices_34 : decode cX10_choices 34 = .ok (.ldiv, 1) := by decide +kernel
theorem dX10_choices_35 : decode cX10_choices 35 = .ok (.lstore_n 2, 1) := by decide +kernel
theorem dX10_choices_36 : decode cX10_choices 36 = .ok (.iinc 4 1, 3) := by decide +kernel
theorem dX10_choices_39 : decode cX10_choices 39 = .ok (.goto (-23), 3) := by decide +kernel
theorem dX10_choices_42 : decode cX10_choices 42 = .ok (.lload_n 2, 1) := by decide +kernel
theorem dX10_choices_43 : decode cX10_choices 43 = .ok (.lreturn, 1) := by decide +kernel
theorem dJ6_numberOfTrailingZeros_0f7a4_0 : decode cJ6_numberOfTrailingZeros_0f7a4 0 = .ok (.iload_n 0, 1) := by decide +kernel
theorem dJ6_numberOfTrailingZeros_0f7a4_1 : decode cJ6_numberOfTrailingZeros_0f7a4 1 = .ok (.iconst (-1), 1) := by decide +kernel
theorem dJ6_numberOfTrailingZeros_0f7a4_2 : decode cJ6_numberOfTrailingZeros_0f7a4 2 = .ok (.ixor, 1) := by decide +kernel
theorem dJ6_numberOfTrailingZeros_0f7a4_3 : decode cJ6_numberOfTrailingZeros_0f7a4 3 = .ok (.iload_n 0, 1) := by decide +kernel
theorem dJ6_numberOfTrailingZeros_0f7a4_4 : decode cJ6_numberOfTrailingZeros_0f7a4 4 = .ok (.iconst 1, 1) := by decide +kernel
theorem dJ6_numberOfTrailingZeros_0f7a4_5 : decode cJ6_numberOfTrailingZeros_0f7a4 5 = .ok (.isub, 1) := by decide +kernel
theorem dJ6_numberOfTrailingZeros_0f7a4_6 : decode cJ6_numberOfTrailingZeros_0f7a4 6 = .ok (.iand, 1) := by decide +kernel
theorem dJ6_numberOfTrailingZeros_0f7a4_7 : decode cJ6_numberOfTrailingZeros_0f7a4 7 = .ok (.istore_n 0, 1) := by decide +kernel
theorem dJ6_numberOfTrailingZeros_0f7a4_8 : decode cJ6_numberOfTrailingZeros_0f7a4 8 = .ok (.iload_n 0, 1) := by decide +kernel
theorem dJ6_numberOfTrailingZeros_0f7a4_9 : decode cJ6_numberOfTrailingZeros_0f7a4 9 = .ok (.ifCond .gt 8, 3) := by decide +kernel
theorem dJ6_numberOfTrailingZeros_0f7a4_12 : decode cJ6_numberOfTrailingZeros_0f7a4 12 = .ok (.iload_n 0, 1) := by decide +kernel
theorem dJ6_numberOfTrailingZeros_0f7a4_13 : decode cJ6_numberOfTrailingZeros_0f7a4 13 = .ok (.bipush 32, 2) := by decide +kernel
theorem dJ6_numberOfTrailingZeros_0f7a4_15 : decode cJ6_numberOfTrailingZeros_0f7a4 15 = .ok (.iand, 1) := by decide +kernel
theorem dJ6_numberOfTrailingZeros_0f7a4_16 : decode cJ6_numberOfTrailingZeros_0f7a4 16 = .ok (.ireturn, 1) := by decide +kernel
theorem dJ6_numberOfTrailingZeros_0f7a4_17 : decode cJ6_numberOfTrailingZeros_0f7a4 17 = .ok (.iconst 1, 1) := by decide +kernel
theorem dJ6_numberOfTrailingZeros_0f7a4_18 : decode cJ6_numberOfTrailingZeros_0f7a4 18 = .ok (.istore_n 1, 1) := by decide +kernel
theorem dJ6_numberOfTrailingZeros_0f7a4_19 : decode cJ6_numberOfTrailingZeros_0f7a4 19 = .ok (.iload_n 0, 1) := by decide +kernel
theorem dJ6_numberOfTrailingZeros_0f7a4_20 : decode cJ6_numberOfTrailingZeros_0f7a4 20 = .ok (.ldc_w 264, 3) := by decide +kernel
theorem dJ6_numberOfTrailingZeros_0f7a4_23 : decode cJ6_numberOfTrailingZeros_0f7a4 23 = .ok (.if_icmp .le 11, 3) := by decide +kernel
theorem dJ6_numberOfTrailingZeros_0f7a4_26 : decode cJ6_numberOfTrailingZeros_0f7a4 26 = .ok (.iinc 1 16, 3) := by decide +kernel
theorem dJ6_numberOfTrailingZeros_0f7a4_29 : decode cJ6_numberOfTrailingZeros_0f7a4 29 = .ok (.iload_n 0, 1) := by decide +kernel
theorem dJ6_numberOfTrailingZeros_0f7a4_30 : decode cJ6_numberOfTrailingZeros_0f7a4 30 = .ok (.bipush 16, 2) := by decide +kernel
theorem dJ6_numberOfTrailingZeros_0f7a4_32 : decode cJ6_numberOfTrailingZeros_0f7a4 32 = .ok (.iushr, 1) := by decide +kernel
theorem dJ6_numberOfTrailingZeros_0f7a4_33 : decode cJ6_numberOfTrailingZeros_0f7a4 33 = .ok (.istore_n 0, 1) := by decide +kernel
theorem dJ6_numberOfTrailingZeros_0f7a4_34 : decode cJ6_numberOfTrailingZeros_0f7a4 34 = .ok (.iload_n 0, 1) := by decide +kernel
theorem dJ6_numberOfTrailingZeros_0f7a4_35 : decode cJ6_numberOfTrailingZeros_0f7a4 35 = .ok (.sipush 256, 3) := by decide +kernel
theorem dJ6_numberOfTrailingZeros_0f7a4_38 : decode cJ6_numberOfTrailingZeros_0f7a4 38 = .ok (.if_icmp .le 11, 3) := by decide +kernel
theorem dJ6_numberOfTrailingZeros_0f7a4_41 : decode cJ6_numberOfTrailingZeros_0f7a4 41 = .ok (.iinc 1 8, 3) := by decide +kernel
theorem dJ6_numberOfTrailingZeros_0f7a4_44 : decode cJ6_numberOfTrailingZeros_0f7a4 44 = .ok (.iload_n 0, 1) := by decide +kernel
theorem dJ6_numberOfTrailingZeros_0f7a4_45 : decode cJ6_numberOfTrailingZeros_0f7a4 45 = .ok (.bipush 8, 2) := by decide +kernel
theorem dJ6_numberOfTrailingZeros_0f7a4_47 : decode cJ6_numberOfTrailingZeros_0f7a4 47 = .ok (.iushr, 1) := by decide +kernel
theorem dJ6_numberOfTrailingZeros_0f7a4_48 : decode cJ6_numberOfTrailingZeros_0f7a4 48 = .ok (.istore_n 0, 1) := by decide +kernel
theorem dJ6_numberOfTrailingZeros_0f7a4_49 : decode cJ6_numberOfTrailingZeros_0f7a4 49 = .ok (.iload_n 0, 1) := by decide +kernel
theorem dJ6_numberOfTrailingZeros_0f7a4_50 : decode cJ6_numberOfTrailingZeros_0f7a4 50 = .ok (.bipush 16, 2) := by decide +kernel
theorem dJ6_numberOfTrailingZeros_0f7a4_52 : decode cJ6_numberOfTrailingZeros_0f7a4 52 = .ok (.if_icmp .le 10, 3) := by decide +kernel
theorem dJ6_numberOfTrailingZeros_0f7a4_55 : decode cJ6_numberOfTrailingZeros_0f7a4 55 = .ok (.iinc 1 4, 3) := by decide +kernel
theorem dJ6_numberOfTrailingZeros_0f7a4_58 : decode cJ6_numberOfTrailingZeros_0f7a4 58 = .ok (.iload_n 0, 1) := by decide +kernel
theorem dJ6_numberOfTrailingZeros_0f7a4_59 : decode cJ6_numberOfTrailingZeros_0f7a4 59 = .ok (.iconst 4, 1) := by decide +kernel
theorem dJ6_numberOfTrailingZeros_0f7a4_60 : decode cJ6_numberOfTrailingZeros_0f7a4 60 = .ok (.iushr, 1) := by decide +kernel
theorem dJ6_numberOfTrailingZeros_0f7a4_61 : decode cJ6_numberOfTrailingZeros_0f7a4 61 = .ok (.istore_n 0, 1) := by decide +kernel
theorem dJ6_numberOfTrailingZeros_0f7a4_62 : decode cJ6_numberOfTrailingZeros_0f7a4 62 = .ok (.iload_n 0, 1) := by decide +kernel
theorem dJ6_numberOfTrailingZeros_0f7a4_63 : decode cJ6_numberOfTrailingZeros_0f7a4 63 = .ok (.iconst 4, 1) := by decide +kernel
theorem dJ6_numberOfTrailingZeros_0f7a4_64 : decode cJ6_numberOfTrailingZeros_0f7a4 64 = .ok (.if_icmp .le 10, 3) := by decide +kernel
theorem dJ6_numberOfTrailingZeros_0f7a4_67 : decode cJ6_numberOfTrailingZeros_0f7a4 67 = .ok (.iinc 1 2, 3) := by decide +kernel
theorem dJ6_numberOfTrailingZeros_0f7a4_70 : decode cJ6_numberOfTrailingZeros_0f7a4 70 = .ok (.iload_n 0, 1) := by decide +kernel
theorem dJ6_numberOfTrailingZeros_0f7a4_71 : decode cJ6_numberOfTrailingZeros_0f7a4 71 = .ok (.iconst 2, 1) := by decide +kernel
theorem dJ6_numberOfTrailingZeros_0f7a4_72 : decode cJ6_numberOfTrailingZeros_0f7a4 72 = .ok (.iushr, 1) := by decide +kernel
theorem dJ6_numberOfTrailingZeros_0f7a4_73 : decode cJ6_numberOfTrailingZeros_0f7a4 73 = .ok (.istore_n 0, 1) := by decide +kernel
theorem dJ6_numberOfTrailingZeros_0f7a4_74 : decode cJ6_numberOfTrailingZeros_0f7a4 74 = .ok (.iload_n 1, 1) := by decide +kernel
theorem dJ6_numberOfTrailingZeros_0f7a4_75 : decode cJ6_numberOfTrailingZeros_0f7a4 75 = .ok (.iload_n 0, 1) := by decide +kernel
theorem dJ6_numberOfTrailingZeros_0f7a4_76 : decode cJ6_numberOfTrailingZeros_0f7a4 76 = .ok (.iconst 1, 1) := by decide +kernel
theorem dJ6_numberOfTrailingZeros_0f7a4_77 : decode cJ6_numberOfTrailingZeros_0f7a4 77 = .ok (.iushr, 1) := by decide +kernel
theorem dJ6_numberOfTrailingZeros_0f7a4_78 : decode cJ6_numberOfTrailingZeros_0f7a4 78 = .ok (.iadd, 1) := by decide +kernel
theorem dJ6_numberOfTrailingZeros_0f7a4_79 : decode cJ6_numberOfTrailingZeros_0f7a4 79 = .ok (.ireturn, 1) := by decide +kernel
theorem dJ6_bitCount_0f7a4_0 : decode cJ6_bitCount_0f7a4 0 = .ok (.iload_n 0, 1) := by decide +kernel
theorem dJ6_bitCount_0f7a4_1 : decode cJ6_bitCount_0f7a4 1 = .ok (.iload_n 0, 1) := by decide +kernel
theorem dJ6_bitCount_0f7a4_2 : decode cJ6_bitCount_0f7a4 2 = .ok (.iconst 1, 1) := by decide +kernel
theorem dJ6_bitCount_0f7a4_3 : decode cJ6_bitCount_0f7a4 3 = .ok (.iushr, 1) := by decide +kernel
theorem dJ6_bitCount_0f7a4_4 : decode cJ6_bitCount_0f7a4 4 = .ok (.ldc_w 265, 3) := by decide +kernel
theorem dJ6_bitCount_0f7a4_7 : decode cJ6_bitCount_0f7a4 7 = .ok (.iand, 1) := by decide +kernel
theorem dJ6_bitCount_0f7a4_8 : decode cJ6_bitCount_0f7a4 8 = .ok (.isub, 1) := by decide +kernel
theorem dJ6_bitCount_0f7a4_9 : decode cJ6_bitCount_0f7a4 9 = .ok (.istore_n 0, 1) := by decide +kernel
theorem dJ6_bitCount_0f7a4_10 : decode cJ6_bitCount_0f7a4 10 = .ok (.iload_n 0, 1) := by decide +kernel
theorem dJ6_bitCount_0f7a4_11 : decode cJ6_bitCount_0f7a4 11 = .ok (.ldc_w 266, 3) := by decide +kernel
theorem dJ6_bitCount_0f7a4_14 : decode cJ6_bitCount_0f7a4 14 = .ok (.iand, 1) := by decide +kernel
theorem dJ6_bitCount_0f7a4_15 : decode cJ6_bitCount_0f7a4 15 = .ok (.iload_n 0, 1) := by decide +kernel
theorem dJ6_bitCount_0f7a4_16 : decode cJ6_bitCount_0f7a4 16 = .ok (.iconst 2, 1) := by decide +kernel
theorem dJ6_bitCount_0f7a4_17 : decode cJ6_bitCount_0f7a4 17 = .ok (.iushr, 1) := by decide +kernel
theorem dJ6_bitCount_0f7a4_18 : decode cJ6_bitCount_0f7a4 18 = .ok (.ldc_w 266, 3) := by decide +kernel
theorem dJ6_bitCount_0f7a4_21 : decode cJ6_bitCount_0f7a4 21 = .ok (.iand, 1) := by decide +kernel
theorem dJ6_bitCount_0f7a4_22 : decode cJ6_bitCount_0f7a4 22 = .ok (.iadd, 1) := by decide +kernel
theorem dJ6_bitCount_0f7a4_23 : decode cJ6_bitCount_0f7a4 23 = .ok (.istore_n 0, 1) := by decide +kernel
theorem dJ6_bitCount_0f7a4_24 : decode cJ6_bitCount_0f7a4 24 = .ok (.iload_n 0, 1) := by decide +kernel
theorem dJ6_bitCount_0f7a4_25 : decode cJ6_bitCount_0f7a4 25 = .ok (.iload_n 0, 1) := by decide +kernel
theorem dJ6_bitCount_0f7a4_26 : decode cJ6_bitCount_0f7a4 26 = .ok (.iconst 4, 1) := by decide +kernel
theorem dJ6_bitCount_0f7a4_27 : decode cJ6_bitCount_0f7a4 27 = .ok (.iushr, 1) := by decide +kernel
theorem dJ6_bitCount_0f7a4_28 : decode cJ6_bitCount_0f7a4 28 = .ok (.iadd, 1) := by decide +kernel
theorem dJ6_bitCount_0f7a4_29 : decode cJ6_bitCount_0f7a4 29 = .ok (.ldc_w 267, 3) := by decide +kernel
theorem dJ6_bitCount_0f7a4_32 : decode cJ6_bitCount_0f7a4 32 = .ok (.iand, 1) := by decide +kernel
theorem dJ6_bitCount_0f7a4_33 : decode cJ6_bitCount_0f7a4 33 = .ok (.istore_n 0, 1) := by decide +kernel
theorem dJ6_bitCount_0f7a4_34 : decode cJ6_bitCount_0f7a4 34 = .ok (.iload_n 0, 1) := by decide +kernel
theorem dJ6_bitCount_0f7a4_35 : decode cJ6_bitCount_0f7a4 35 = .ok (.iload_n 0, 1) := by decide +kernel
theorem dJ6_bitCount_0f7a4_36 : decode cJ6_bitCount_0f7a4 36 = .ok (.bipush 8, 2) := by decide +kernel
theorem dJ6_bitCount_0f7a4_38 : decode cJ6_bitCount_0f7a4 38 = .ok (.iushr, 1) := by decide +kernel
theorem dJ6_bitCount_0f7a4_39 : decode cJ6_bitCount_0f7a4 39 = .ok (.iadd, 1) := by decide +kernel
theorem dJ6_bitCount_0f7a4_40 : decode cJ6_bitCount_0f7a4 40 = .ok (.istore_n 0, 1) := by decide +kernel
theorem dJ6_bitCount_0f7a4_41 : decode cJ6_bitCount_0f7a4 41 = .ok (.iload_n 0, 1) := by decide +kernel
theorem dJ6_bitCount_0f7a4_42 : decode cJ6_bitCount_0f7a4 42 = .ok (.iload_n 0, 1) := by decide +kernel
theorem dJ6_bitCount_0f7a4_43 : decode cJ6_bitCount_0f7a4 43 = .ok (.bipush 16, 2) := by decide +kernel
theorem dJ6_bitCount_0f7a4_45 : decode cJ6_bitCount_0f7a4 45 = .ok (.iushr, 1) := by decide +kernel
theorem dJ6_bitCount_0f7a4_46 : decode cJ6_bitCount_0f7a4 46 = .ok (.iadd, 1) := by decide +kernel
theorem dJ6_bitCount_0f7a4_47 : decode cJ6_bitCount_0f7a4 47 = .ok (.istore_n 0, 1) := by decide +kernel
theorem dJ6_bitCount_0f7a4_48 : decode cJ6_bitCount_0f7a4 48 = .ok (.iload_n 0, 1) := by decide +kernel
theorem dJ6_bitCount_0f7a4_49 : decode cJ6_bitCount_0f7a4 49 = .ok (.bipush 63, 2) := by decide +kernel
theorem dJ6_bitCount_0f7a4_51 : decode cJ6_bitCount_0f7a4 51 = .ok (.iand, 1) := by decide +kernel
theorem dJ6_bitCount_0f7a4_52 : decode cJ6_bitCount_0f7a4 52 = .ok (.ireturn, 1) := by decide +kernel
theorem dJ9_max_7cf53_0 : decode cJ9_max_7cf53 0 = .ok (.iload_n 0, 1) := by decide +kernel
theorem dJ9_max_7cf53_1 : decode cJ9_max_7cf53 1 = .ok (.iload_n 1, 1) := by decide +kernel
theorem dJ9_max_7cf53_2 : decode cJ9_max_7cf53 2 = .ok (.if_icmp .lt 7, 3) := by decide +kernel
theorem dJ9_max_7cf53_5 : decode cJ9_max_7cf53 5 = .ok (.iload_n 0, 1) := by decide +kernel
theorem dJ9_max_7cf53_6 : decode cJ9_max_7cf53 6 = .ok (.goto 4, 3) := by decide +kernel
theorem dJ9_max_7cf53_9 : decode cJ9_max_7cf53 9 = .ok (.iload_n 1, 1) := by decide +kernel
theorem dJ9_max_7cf53_10 : decode cJ9_max_7cf53 10 = .ok (.ireturn, 1) := by decide +kernel
theorem dJ9_max_f86c9_0 : decode cJ9_max_f86c9 0 = .ok (.lload_n 0, 1) := by decide +kernel
theorem dJ9_max_f86c9_1 : decode cJ9_max_f86c9 1 = .ok (.lload_n 2, 1) := by decide +kernel
theorem dJ9_max_f86c9_2 : decode cJ9_max_f86c9 2 = .ok (.lcmp, 1) := by decide +kernel
theorem dJ9_max_f86c9_3 : decode cJ9_max_f86c9 3 = .ok (.ifCond .lt 7, 3) := by decide +kernel
theorem dJ9_max_f86c9_6 : decode cJ9_max_f86c9 6 = .ok (.lload_n 0, 1) := by decide +kernel
theorem dJ9_max_f86c9_7 : decode cJ9_max_f86c9 7 = .ok (.goto 4, 3) := by decide +kernel
theorem dJ9_max_f86c9_10 : decode cJ9_max_f86c9 10 = .ok (.lload_n 2, 1) := by decide +kernel
theorem dJ9_max_f86c9_11 : decode cJ9_max_f86c9 11 = .ok (.lreturn, 1) := by decide +kernel
theorem dJ9_min_7cf53_0 : decode cJ9_min_7cf53 0 = .ok (.iload_n 0, 1) := by decide +kernel
theorem dJ9_min_7cf53_1 : decode cJ9_min_7cf53 1 = .ok (.iload_n 1, 1) := by decide +kernel
theorem dJ9_min_7cf53_2 : decode cJ9_min_7cf53 2 = .ok (.if_icmp .gt 7, 3) := by decide +kernel
theorem dJ9_min_7cf53_5 : decode cJ9_min_7cf53 5 = .ok (.iload_n 0, 1) := by decide +kernel
theorem dJ9_min_7cf53_6 : decode cJ9_min_7cf53 6 = .ok (.goto 4, 3) := by decide +kernel
theorem dJ9_min_7cf53_9 : decode cJ9_min_7cf53 9 = .ok (.iload_n 1, 1) := by decide +kernel
theorem dJ9_min_7cf53_10 : decode cJ9_min_7cf53 10 = .ok (.ireturn, 1) := by decide +kernel
theorem dJ9_min_f86c9_0 : decode cJ9_min_f86c9 0 = .ok (.lload_n 0, 1) := by decide +kernel
theorem dJ9_min_f86c9_1 : decode cJ9_min_f86c9 1 = .ok (.lload_n 2, 1) := by decide +kernel
theorem dJ9_min_f86c9_2 : decode cJ9_min_f86c9 2 = .ok (.lcmp, 1) := by decide +kernel
theorem dJ9_min_f86c9_3 : decode cJ9_min_f86c9 3 = .ok (.ifCond .gt 7, 3) := by decide +kernel
theorem dJ9_min_f86c9_6 : decode cJ9_min_f86c9 6 = .ok (.lload_n 0, 1) := by decide +kernel
theorem dJ9_min_f86c9_7 : decode cJ9_min_f86c9 7 = .ok (.goto 4, 3) := by decide +kernel
theorem dJ9_min_f86c9_10 : decode cJ9_min_f86c9 10 = .ok (.lload_n 2, 1) := by decide +kernel
theorem dJ9_min_f86c9_11 : decode cJ9_min_f86c9 11 = .ok (.lreturn, 1) := by decide +kernel
theorem dJ7_fill_53178_0 : decode cJ7_fill_53178 0 = .ok (.iconst 0, 1) := by decide +kernel
theorem dJ7_fill_53178_1 : decode cJ7_fill_53178 1 = .ok (.istore_n 2, 1) := by decide +kernel
theorem dJ7_fill_53178_2 : decode cJ7_fill_53178 2 = .ok (.aload_n 0, 1) := by decide +kernel
theorem dJ7_fill_53178_3 : decode cJ7_fill_53178 3 = .ok (.arraylength, 1) := by decide +kernel
theorem dJ7_fill_53178_4 : decode cJ7_fill_53178 4 = .ok (.istore_n 3, 1) := by decide +kernel
theorem dJ7_fill_53178_5 : decode cJ7_fill_53178 5 = .ok (.iload_n 2, 1) := by decide +kernel
theorem dJ7_fill_53178_6 : decode cJ7_fill_53178 6 = .ok (.iload_n 3, 1) := by decide +kernel
theorem dJ7_fill_53178_7 : decode cJ7_fill_53178 7 = .ok (.if_icmp .ge 13, 3) := by decide +kernel
theorem dJ7_fill_53178_10 : decode cJ7_fill_53178 10 = .ok (.aload_n 0, 1) := by decide +kernel
theorem dJ7_fill_53178_11 : decode cJ7_fill_53178 11 = .ok (.iload_n 2, 1) := by decide +kernel
theorem dJ7_fill_53178_12 : decode cJ7_fill_53178 12 = .ok (.iload_n 1, 1) := by decide +kernel
theorem dJ7_fill_53178_13 : decode cJ7_fill_53178 13 = .ok (.iastore, 1) := by decide +kernel
theorem dJ7_fill_53178_14 : decode cJ7_fill_53178 14 = .ok (.iinc 2 1, 3) := by decide +kernel
theorem dJ7_fill_53178_17 : decode cJ7_fill_53178 17 = .ok (.goto (-12), 3) := by decide +kernel
theorem dJ7_fill_53178_20 : decode cJ7_fill_53178 20 = .ok (.return_, 1) := by decide +kernel
