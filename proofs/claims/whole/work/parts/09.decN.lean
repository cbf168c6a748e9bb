theorem d_J_floorDiv_JJ_0 : decode b_J_floorDiv_JJ 0 = .ok (.lload_n 0, 1) := by decide +kernel
theorem d_J_floorDiv_JJ_1 : decode b_J_floorDiv_JJ 1 = .ok (.lload_n 2, 1) := by decide +kernel
theorem d_J_floorDiv_JJ_2 : decode b_J_floorDiv_JJ 2 = .ok (.ldiv, 1) := by decide +kernel
theorem d_J_floorDiv_JJ_3 : decode b_J_floorDiv_JJ 3 = .ok (.lstore 4, 2) := by decide +kernel
theorem d_J_floorDiv_JJ_5 : decode b_J_floorDiv_JJ 5 = .ok (.lload_n 0, 1) := by decide +kernel
theorem d_J_floorDiv_JJ_6 : decode b_J_floorDiv_JJ 6 = .ok (.lload_n 2, 1) := by decide +kernel
theorem d_J_floorDiv_JJ_7 : decode b_J_floorDiv_JJ 7 = .ok (.lxor, 1) := by decide +kernel
theorem d_J_floorDiv_JJ_8 : decode b_J_floorDiv_JJ 8 = .ok (.lconst 0, 1) := by decide +kernel
theorem d_J_floorDiv_JJ_9 : decode b_J_floorDiv_JJ 9 = .ok (.lcmp, 1) := by decide +kernel
theorem d_J_floorDiv_JJ_10 : decode b_J_floorDiv_JJ 10 = .ok (.ifCond .ge 17, 3) := by decide +kernel
theorem d_J_floorDiv_JJ_13 : decode b_J_floorDiv_JJ 13 = .ok (.lload 4, 2) := by decide +kernel
theorem d_J_floorDiv_JJ_15 : decode b_J_floorDiv_JJ 15 = .ok (.lload_n 2, 1) := by decide +kernel
theorem d_J_floorDiv_JJ_16 : decode b_J_floorDiv_JJ 16 = .ok (.lmul, 1) := by decide +kernel
theorem d_J_floorDiv_JJ_17 : decode b_J_floorDiv_JJ 17 = .ok (.lload_n 0, 1) := by decide +kernel
theorem d_J_floorDiv_JJ_18 : decode b_J_floorDiv_JJ 18 = .ok (.lcmp, 1) := by decide +kernel
theorem d_J_floorDiv_JJ_19 : decode b_J_floorDiv_JJ 19 = .ok (.ifCond .eq 8, 3) := by decide +kernel
theorem d_J_floorDiv_JJ_22 : decode b_J_floorDiv_JJ 22 = .ok (.lload 4, 2) := by decide +kernel
theorem d_J_floorDiv_JJ_24 : decode b_J_floorDiv_JJ 24 = .ok (.lconst 1, 1) := by decide +kernel
theorem d_J_floorDiv_JJ_25 : decode b_J_floorDiv_JJ 25 = .ok (.lsub, 1) := by decide +kernel
theorem d_J_floorDiv_JJ_26 : decode b_J_floorDiv_JJ 26 = .ok (.lreturn, 1) := by decide +kernel
theorem d_J_floorDiv_JJ_27 : decode b_J_floorDiv_JJ 27 = .ok (.lload 4, 2) := by decide +kernel
theorem d_J_floorDiv_JJ_29 : decode b_J_floorDiv_JJ 29 = .ok (.lreturn, 1) := by decide +kernel
theorem d_J_floorDiv_II_0 : decode b_J_floorDiv_II 0 = .ok (.iload_n 0, 1) := by decide +kernel
theorem d_J_floorDiv_II_1 : decode b_J_floorDiv_II 1 = .ok (.iload_n 1, 1) := by decide +kernel
theorem d_J_floorDiv_II_2 : decode b_J_floorDiv_II 2 = .ok (.idiv, 1) := by decide +kernel
theorem d_J_floorDiv_II_3 : decode b_J_floorDiv_II 3 = .ok (.istore_n 2, 1) := by decide +kernel
theorem d_J_floorDiv_II_4 : decode b_J_floorDiv_II 4 = .ok (.iload_n 0, 1) := by decide +kernel
theorem d_J_floorDiv_II_5 : decode b_J_floorDiv_II 5 = .ok (.iload_n 1, 1) := by decide +kernel
theorem d_J_floorDiv_II_6 : decode b_J_floorDiv_II 6 = .ok (.ixor, 1) := by decide +kernel
theorem d_J_floorDiv_II_7 : decode b_J_floorDiv_II 7 = .ok (.ifCond .ge 14, 3) := by decide +kernel
theorem d_J_floorDiv_II_10 : decode b_J_floorDiv_II 10 = .ok (.iload_n 2, 1) := by decide +kernel
theorem d_J_floorDiv_II_11 : decode b_J_floorDiv_II 11 = .ok (.iload_n 1, 1) := by decide +kernel
theorem d_J_floorDiv_II_12 : decode b_J_floorDiv_II 12 = .ok (.imul, 1) := by decide +kernel
theorem d_J_floorDiv_II_13 : decode b_J_floorDiv_II 13 = .ok (.iload_n 0, 1) := by decide +kernel
theorem d_J_floorDiv_II_14 : decode b_J_floorDiv_II 14 = .ok (.if_icmp .eq 7, 3) := by decide +kernel
theorem d_J_floorDiv_II_17 : decode b_J_floorDiv_II 17 = .ok (.iload_n 2, 1) := by decide +kernel
theorem d_J_floorDiv_II_18 : decode b_J_floorDiv_II 18 = .ok (.iconst 1, 1) := by decide +kernel
theorem d_J_floorDiv_II_19 : decode b_J_floorDiv_II 19 = .ok (.isub, 1) := by decide +kernel
theorem d_J_floorDiv_II_20 : decode b_J_floorDiv_II 20 = .ok (.ireturn, 1) := by decide +kernel
theorem d_J_floorDiv_II_21 : decode b_J_floorDiv_II 21 = .ok (.iload_n 2, 1) := by decide +kernel
theorem d_J_floorDiv_II_22 : decode b_J_floorDiv_II 22 = .ok (.ireturn, 1) := by decide +kernel
theorem d_N_init_0 : decode b_N_init 0 = .ok (.aload_n 0, 1) := by decide +kernel
theorem d_N_init_1 : decode b_N_init 1 = .ok (.invokespecial 3, 3) := by decide +kernel
theorem d_N_init_4 : decode b_N_init 4 = .ok (.aload_n 0, 1) := by decide +kernel
theorem d_N_init_5 : decode b_N_init 5 = .ok (.bipush 40, 2) := by decide +kernel
theorem d_N_init_7 : decode b_N_init 7 = .ok (.newarray .int, 2) := by decide +kernel
theorem d_N_init_9 : decode b_N_init 9 = .ok (.putfield 9, 3) := by decide +kernel
theorem d_N_init_12 : decode b_N_init 12 = .ok (.aload_n 0, 1) := by decide +kernel
theorem d_N_init_13 : decode b_N_init 13 = .ok (.bipush 40, 2) := by decide +kernel
theorem d_N_init_15 : decode b_N_init 15 = .ok (.newarray .int, 2) := by decide +kernel
theorem d_N_init_17 : decode b_N_init 17 = .ok (.putfield 15, 3) := by decide +kernel
theorem d_N_init_20 : decode b_N_init 20 = .ok (.aload_n 0, 1) := by decide +kernel
theorem d_N_init_21 : decode b_N_init 21 = .ok (.bipush 40, 2) := by decide +kernel
theorem d_N_init_23 : decode b_N_init 23 = .ok (.newarray .int, 2) := by decide +kernel
theorem d_N_init_25 : decode b_N_init 25 = .ok (.putfield 18, 3) := by decide +kernel
theorem d_N_init_28 : decode b_N_init 28 = .ok (.aload_n 0, 1) := by decide +kernel
theorem d_N_init_29 : decode b_N_init 29 = .ok (.bipush 40, 2) := by decide +kernel
theorem d_N_init_31 : decode b_N_init 31 = .ok (.newarray .int, 2) := by decide +kernel
theorem d_N_init_33 : decode b_N_init 33 = .ok (.putfield 21, 3) := by decide +kernel
theorem d_N_init_36 : decode b_N_init 36 = .ok (.return_, 1) := by decide +kernel
theorem d_N_isFull_0 : decode b_N_isFull 0 = .ok (.aload_n 0, 1) := by decide +kernel
theorem d_N_isFull_1 : decode b_N_isFull 1 = .ok (.getfield 24, 3) := by decide +kernel
theorem d_N_isFull_4 : decode b_N_isFull 4 = .ok (.bipush 40, 2) := by decide +kernel
theorem d_N_isFull_6 : decode b_N_isFull 6 = .ok (.if_icmp .lt 7, 3) := by decide +kernel
theorem d_N_isFull_9 : decode b_N_isFull 9 = .ok (.iconst 1, 1) := by decide +kernel
theorem d_N_isFull_10 : decode b_N_isFull 10 = .ok (.goto 4, 3) := by decide +kernel
theorem d_N_isFull_13 : decode b_N_isFull 13 = .ok (.iconst 0, 1) := by decide +kernel
theorem d_N_isFull_14 : decode b_N_isFull 14 = .ok (.ireturn, 1) := by decide +kernel
theorem d_N_add_0 : decode b_N_add 0 = .ok (.aload_n 0, 1) := by decide +kernel
theorem d_N_add_1 : decode b_N_add 1 = .ok (.getfield 9, 3) := by decide +kernel
theorem d_N_add_4 : decode b_N_add 4 = .ok (.aload_n 0, 1) := by decide +kernel
theorem d_N_add_5 : decode b_N_add 5 = .ok (.getfield 24, 3) := by decide +kernel
theorem d_N_add_8 : decode b_N_add 8 = .ok (.iload_n 1, 1) := by decide +kernel
theorem d_N_add_9 : decode b_N_add 9 = .ok (.iastore, 1) := by decide +kernel
theorem d_N_add_10 : decode b_N_add 10 = .ok (.aload_n 0, 1) := by decide +kernel
theorem d_N_add_11 : decode b_N_add 11 = .ok (.getfield 15, 3) := by decide +kernel
theorem d_N_add_14 : decode b_N_add 14 = .ok (.aload_n 0, 1) := by decide +kernel
theorem d_N_add_15 : decode b_N_add 15 = .ok (.getfield 24, 3) := by decide +kernel
theorem d_N_add_18 : decode b_N_add 18 = .ok (.iload_n 2, 1) := by decide +kernel
theorem d_N_add_19 : decode b_N_add 19 = .ok (.iastore, 1) := by decide +kernel
theorem d_N_add_20 : decode b_N_add 20 = .ok (.aload_n 0, 1) := by decide +kernel
theorem d_N_add_21 : decode b_N_add 21 = .ok (.getfield 18, 3) := by decide +kernel
theorem d_N_add_24 : decode b_N_add 24 = .ok (.aload_n 0, 1) := by decide +kernel
theorem d_N_add_25 : decode b_N_add 25 = .ok (.getfield 24, 3) := by decide +kernel
theorem d_N_add_28 : decode b_N_add 28 = .ok (.iload_n 3, 1) := by decide +kernel
theorem d_N_add_29 : decode b_N_add 29 = .ok (.iastore, 1) := by decide +kernel
theorem d_N_add_30 : decode b_N_add 30 = .ok (.aload_n 0, 1) := by decide +kernel
theorem d_N_add_31 : decode b_N_add 31 = .ok (.getfield 21, 3) := by decide +kernel
theorem d_N_add_34 : decode b_N_add 34 = .ok (.aload_n 0, 1) := by decide +kernel
theorem d_N_add_35 : decode b_N_add 35 = .ok (.getfield 24, 3) := by decide +kernel
theorem d_N_add_38 : decode b_N_add 38 = .ok (.iload 4, 2) := by decide +kernel
theorem d_N_add_40 : decode b_N_add 40 = .ok (.iastore, 1) := by decide +kernel
theorem d_N_add_41 : decode b_N_add 41 = .ok (.aload_n 0, 1) := by decide +kernel
theorem d_N_add_42 : decode b_N_add 42 = .ok (.dup, 1) := by decide +kernel
theorem d_N_add_43 : decode b_N_add 43 = .ok (.getfield 24, 3) := by decide +kernel
theorem d_N_add_46 : decode b_N_add 46 = .ok (.iconst 1, 1) := by decide +kernel
theorem d_N_add_47 : decode b_N_add 47 = .ok (.iadd, 1) := by decide +kernel
theorem d_N_add_48 : decode b_N_add 48 = .ok (.putfield 24, 3) := by decide +kernel
theorem d_N_add_51 : decode b_N_add 51 = .ok (.return_, 1) := by decide +kernel
theorem d_N_find_0 : decode b_N_find 0 = .ok (.aload_n 0, 1) := by decide +kernel
theorem d_N_find_1 : decode b_N_find 1 = .ok (.getfield 24, 3) := by decide +kernel
theorem d_N_find_4 : decode b_N_find 4 = .ok (.iconst 1, 1) := by decide +kernel
theorem d_N_find_5 : decode b_N_find 5 = .ok (.isub, 1) := by decide +kernel
theorem d_N_find_6 : decode b_N_find 6 = .ok (.istore_n 3, 1) := by decide +kernel
theorem d_N_find_7 : decode b_N_find 7 = .ok (.iload_n 3, 1) := by decide +kernel
theorem d_N_find_8 : decode b_N_find 8 = .ok (.ifCond .lt 46, 3) := by decide +kernel
theorem d_N_find_11 : decode b_N_find 11 = .ok (.aload_n 0, 1) := by decide +kernel
theorem d_N_find_12 : decode b_N_find 12 = .ok (.getfield 9, 3) := by decide +kernel
theorem d_N_find_15 : decode b_N_find 15 = .ok (.iload_n 3, 1) := by decide +kernel
theorem d_N_find_16 : decode b_N_find 16 = .ok (.iaload, 1) := by decide +kernel
theorem d_N_find_17 : decode b_N_find 17 = .ok (.iload_n 1, 1) := by decide +kernel
theorem d_N_find_18 : decode b_N_find 18 = .ok (.if_icmp .ne 30, 3) := by decide +kernel
theorem d_N_find_21 : decode b_N_find 21 = .ok (.aload_n 0, 1) := by decide +kernel
theorem d_N_find_22 : decode b_N_find 22 = .ok (.getfield 18, 3) := by decide +kernel
theorem d_N_find_25 : decode b_N_find 25 = .ok (.iload_n 3, 1) := by decide +kernel
theorem d_N_find_26 : decode b_N_find 26 = .ok (.iaload, 1) := by decide +kernel
theorem d_N_find_27 : decode b_N_find 27 = .ok (.iload_n 2, 1) := by decide +kernel
theorem d_N_find_28 : decode b_N_find 28 = .ok (.if_icmp .gt 20, 3) := by decide +kernel
theorem d_N_find_31 : decode b_N_find 31 = .ok (.iload_n 2, 1) := by decide +kernel
theorem d_N_find_32 : decode b_N_find 32 = .ok (.aload_n 0, 1) := by decide +kernel
theorem d_N_find_33 : decode b_N_find 33 = .ok (.getfield 21, 3) := by decide +kernel
theorem d_N_find_36 : decode b_N_find 36 = .ok (.iload_n 3, 1) := by decide +kernel
theorem d_N_find_37 : decode b_N_find 37 = .ok (.iaload, 1) := by decide +kernel
theorem d_N_find_38 : decode b_N_find 38 = .ok (.if_icmp .gt 10, 3) := by decide +kernel
theorem d_N_find_41 : decode b_N_find 41 = .ok (.aload_n 0, 1) := by decide +kernel
theorem d_N_find_42 : decode b_N_find 42 = .ok (.getfield 15, 3) := by decide +kernel
theorem d_N_find_45 : decode b_N_find 45 = .ok (.iload_n 3, 1) := by decide +kernel
theorem d_N_find_46 : decode b_N_find 46 = .ok (.iaload, 1) := by decide +kernel
theorem d_N_find_47 : decode b_N_find 47 = .ok (.ireturn, 1) := by decide +kernel
theorem d_N_find_48 : decode b_N_find 48 = .ok (.iinc 3 (-1), 3) := by decide +kernel
theorem d_N_find_51 : decode b_N_find 51 = .ok (.goto (-44), 3) := by decide +kernel
theorem d_N_find_54 : decode b_N_find 54 = .ok (.iconst (-1), 1) := by decide +kernel
theorem d_N_find_55 : decode b_N_find 55 = .ok (.ireturn, 1) := by decide +kernel
theorem d_O_init_0 : decode b_O_init 0 = .ok (.aload_n 0, 1) := by decide +kernel
theorem d_O_init_1 : decode b_O_init 1 = .ok (.invokespecial 3, 3) := by decide +kernel
theorem d_O_init_4 : decode b_O_init 4 = .ok (.aload_n 0, 1) := by decide +kernel
theorem d_O_init_5 : decode b_O_init 5 = .ok (.bipush 12, 2) := by decide +kernel
theorem d_O_init_7 : decode b_O_init 7 = .ok (.newarray .int, 2) := by decide +kernel
theorem d_O_init_9 : decode b_O_init 9 = .ok (.putfield 9, 3) := by decide +kernel
theorem d_O_init_12 : decode b_O_init 12 = .ok (.aload_n 0, 1) := by decide +kernel
theorem d_O_init_13 : decode b_O_init 13 = .ok (.bipush 12, 2) := by decide +kernel
theorem d_O_init_15 : decode b_O_init 15 = .ok (.newarray .int, 2) := by decide +kernel
theorem d_O_init_17 : decode b_O_init 17 = .ok (.putfield 15, 3) := by decide +kernel
theorem d_O_init_20 : decode b_O_init 20 = .ok (.aload_n 0, 1) := by decide +kernel
theorem d_O_init_21 : decode b_O_init 21 = .ok (.bipush 12, 2) := by decide +kernel
theorem d_O_init_23 : decode b_O_init 23 = .ok (.newarray .int, 2) := by decide +kernel
theorem d_O_init_25 : decode b_O_init 25 = .ok (.putfield 18, 3) := by decide +kernel
theorem d_O_init_28 : decode b_O_init 28 = .ok (.aload_n 0, 1) := by decide +kernel
theorem d_O_init_29 : decode b_O_init 29 = .ok (.bipush 12, 2) := by decide +kernel
theorem d_O_init_31 : decode b_O_init 31 = .ok (.newarray .int, 2) := by decide +kernel
theorem d_O_init_33 : decode b_O_init 33 = .ok (.putfield 21, 3) := by decide +kernel
theorem d_O_init_36 : decode b_O_init 36 = .ok (.return_, 1) := by decide +kernel
theorem d_O_isFull_0 : decode b_O_isFull 0 = .ok (.aload_n 0, 1) := by decide +kernel
theorem d_O_isFull_1 : decode b_O_isFull 1 = .ok (.getfield 24, 3) := by decide +kernel
theorem d_O_isFull_4 : decode b_O_isFull 4 = .ok (.bipush 12, 2) := by decide +kernel
theorem d_O_isFull_6 : decode b_O_isFull 6 = .ok (.if_icmp .lt 7, 3) := by decide +kernel
theorem d_O_isFull_9 : decode b_O_isFull 9 = .ok (.iconst 1, 1) := by decide +kernel
theorem d_O_isFull_10 : decode b_O_isFull 10 = .ok (.goto 4, 3) := by decide +kernel
theorem d_O_isFull_13 : decode b_O_isFull 13 = .ok (.iconst 0, 1) := by decide +kernel
theorem d_O_isFull_14 : decode b_O_isFull 14 = .ok (.ireturn, 1) := by decide +kernel
theorem d_O_add_0 : decode b_O_add 0 = .ok (.aload_n 0, 1) := by decide +kernel
theorem d_O_add_1 : decode b_O_add 1 = .ok (.getfield 9, 3) := by decide +kernel
theorem d_O_add_4 : decode b_O_add 4 = .ok (.aload_n 0, 1) := by decide +kernel
theorem d_O_add_5 : decode b_O_add 5 = .ok (.getfield 24, 3) := by decide +kernel
theorem d_O_add_8 : decode b_O_add 8 = .ok (.iload_n 1, 1) := by decide +kernel
theorem d_O_add_9 : decode b_O_add 9 = .ok (.iastore, 1) := by decide +kernel
theorem d_O_add_10 : decode b_O_add 10 = .ok (.aload_n 0, 1) := by decide +kernel
theorem d_O_add_11 : decode b_O_add 11 = .ok (.getfield 15, 3) := by decide +kernel
theorem d_O_add_14 : decode b_O_add 14 = .ok (.aload_n 0, 1) := by decide +kernel
theorem d_O_add_15 : decode b_O_add 15 = .ok (.getfield 24, 3) := by decide +kernel
theorem d_O_add_18 : decode b_O_add 18 = .ok (.iload_n 2, 1) := by decide +kernel
theorem d_O_add_19 : decode b_O_add 19 = .ok (.iastore, 1) := by decide +kernel
theorem d_O_add_20 : decode b_O_add 20 = .ok (.aload_n 0, 1) := by decide +kernel
theorem d_O_add_21 : decode b_O_add 21 = .ok (.getfield 18, 3) := by decide +kernel
theorem d_O_add_24 : decode b_O_add 24 = .ok (.aload_n 0, 1) := by decide +kernel
theorem d_O_add_25 : decode b_O_add 25 = .ok (.getfield 24, 3) := by decide +kernel
theorem d_O_add_28 : decode b_O_add 28 = .ok (.iload_n 3, 1) := by decide +kernel
theorem d_O_add_29 : decode b_O_add 29 = .ok (.iastore, 1) := by decide +kernel
theorem d_O_add_30 : decode b_O_add 30 = .ok (.aload_n 0, 1) := by decide +kernel
theorem d_O_add_31 : decode b_O_add 31 = .ok (.getfield 21, 3) := by decide +kernel
theorem d_O_add_34 : decode b_O_add 34 = .ok (.aload_n 0, 1) := by decide +kernel
theorem d_O_add_35 : decode b_O_add 35 = .ok (.getfield 24, 3) := by decide +kernel
theorem d_O_add_38 : decode b_O_add 38 = .ok (.iload 4, 2) := by decide +kernel
theorem d_O_add_40 : decode b_O_add 40 = .ok (.iastore, 1) := by decide +kernel
theorem d_O_add_41 : decode b_O_add 41 = .ok (.aload_n 0, 1) := by decide +kernel
theorem d_O_add_42 : decode b_O_add 42 = .ok (.dup, 1) := by decide +kernel
theorem d_O_add_43 : decode b_O_add 43 = .ok (.getfield 24, 3) := by decide +kernel
theorem d_O_add_46 : decode b_O_add 46 = .ok (.iconst 1, 1) := by decide +kernel
theorem d_O_add_47 : decode b_O_add 47 = .ok (.iadd, 1) := by decide +kernel
theorem d_O_add_48 : decode b_O_add 48 = .ok (.putfield 24, 3) := by decide +kernel
theorem d_O_add_51 : decode b_O_add 51 = .ok (.aload_n 0, 1) := by decide +kernel
theorem d_O_add_52 : decode b_O_add 52 = .ok (.getfield 24, 3) := by decide +kernel
theorem d_O_add_55 : decode b_O_add 55 = .ok (.iconst 1, 1) := by decide +kernel
theorem d_O_add_56 : decode b_O_add 56 = .ok (.isub, 1) := by decide +kernel
theorem d_O_add_57 : decode b_O_add 57 = .ok (.ireturn, 1) := by decide +kernel
theorem d_O_find_0 : decode b_O_find 0 = .ok (.iconst 0, 1) := by decide +kernel
theorem d_O_find_1 : decode b_O_find 1 = .ok (.istore 4, 2) := by decide +kernel
theorem d_O_find_3 : decode b_O_find 3 = .ok (.iload 4, 2) := by decide +kernel
theorem d_O_find_5 : decode b_O_find 5 = .ok (.aload_n 0, 1) := by decide +kernel
theorem d_O_find_6 : decode b_O_find 6 = .ok (.getfield 24, 3) := by decide +kernel
theorem d_O_find_9 : decode b_O_find 9 = .ok (.if_icmp .ge 98, 3) := by decide +kernel
theorem d_O_find_12 : decode b_O_find 12 = .ok (.iload 4, 2) := by decide +kernel
theorem d_O_find_14 : decode b_O_find 14 = .ok (.iconst 1, 1) := by decide +kernel
theorem d_O_find_15 : decode b_O_find 15 = .ok (.iadd, 1) := by decide +kernel
theorem d_O_find_16 : decode b_O_find 16 = .ok (.istore 5, 2) := by decide +kernel
theorem d_O_find_18 : decode b_O_find 18 = .ok (.iload 5, 2) := by decide +kernel
theorem d_O_find_20 : decode b_O_find 20 = .ok (.aload_n 0, 1) := by decide +kernel
theorem d_O_find_21 : decode b_O_find 21 = .ok (.getfield 24, 3) := by decide +kernel
theorem d_O_find_24 : decode b_O_find 24 = .ok (.if_icmp .ge 77, 3) := by decide +kernel
theorem d_O_find_27 : decode b_O_find 27 = .ok (.iload 5, 2) := by decide +kernel
theorem d_O_find_29 : decode b_O_find 29 = .ok (.iconst 1, 1) := by decide +kernel
theorem d_O_find_30 : decode b_O_find 30 = .ok (.iadd, 1) := by decide +kernel
theorem d_O_find_31 : decode b_O_find 31 = .ok (.istore 6, 2) := by decide +kernel
theorem d_O_find_33 : decode b_O_find 33 = .ok (.iload 6, 2) := by decide +kernel
theorem d_O_find_35 : decode b_O_find 35 = .ok (.aload_n 0, 1) := by decide +kernel
theorem d_O_find_36 : decode b_O_find 36 = .ok (.getfield 24, 3) := by decide +kernel
theorem d_O_find_39 : decode b_O_find 39 = .ok (.if_icmp .ge 56, 3) := by decide +kernel
theorem d_O_find_42 : decode b_O_find 42 = .ok (.aload_n 0, 1) := by decide +kernel
theorem d_O_find_43 : decode b_O_find 43 = .ok (.iload 4, 2) := by decide +kernel
theorem d_O_find_45 : decode b_O_find 45 = .ok (.iload 5, 2) := by decide +kernel
theorem d_O_find_47 : decode b_O_find 47 = .ok (.iload 6, 2) := by decide +kernel
theorem d_O_find_49 : decode b_O_find 49 = .ok (.iload_n 1, 1) := by decide +kernel
theorem d_O_find_50 : decode b_O_find 50 = .ok (.iload_n 2, 1) := by decide +kernel
theorem d_O_find_51 : decode b_O_find 51 = .ok (.invokevirtual 28, 3) := by decide +kernel
theorem d_O_find_54 : decode b_O_find 54 = .ok (.ifCond .eq 35, 3) := by decide +kernel
theorem d_O_find_57 : decode b_O_find 57 = .ok (.iload_n 3, 1) := by decide +kernel
theorem d_O_find_58 : decode b_O_find 58 = .ok (.ifCond .ne 10, 3) := by decide +kernel
theorem d_O_find_61 : decode b_O_find 61 = .ok (.aload_n 0, 1) := by decide +kernel
theorem d_O_find_62 : decode b_O_find 62 = .ok (.getfield 18, 3) := by decide +kernel
theorem d_O_find_65 : decode b_O_find 65 = .ok (.goto 7, 3) := by decide +kernel
theorem d_O_find_68 : decode b_O_find 68 = .ok (.aload_n 0, 1) := by decide +kernel
theorem d_O_find_69 : decode b_O_find 69 = .ok (.getfield 21, 3) := by decide +kernel
theorem d_O_find_72 : decode b_O_find 72 = .ok (.astore 7, 2) := by decide +kernel
theorem d_O_find_74 : decode b_O_find 74 = .ok (.aload_n 0, 1) := by decide +kernel
theorem d_O_find_75 : decode b_O_find 75 = .ok (.iload 4, 2) := by decide +kernel
theorem d_O_find_77 : decode b_O_find 77 = .ok (.iload 5, 2) := by decide +kernel
theorem d_O_find_79 : decode b_O_find 79 = .ok (.iload 6, 2) := by decide +kernel
theorem d_O_find_81 : decode b_O_find 81 = .ok (.iload_n 1, 1) := by decide +kernel
theorem d_O_find_82 : decode b_O_find 82 = .ok (.iload_n 2, 1) := by decide +kernel
theorem d_O_find_83 : decode b_O_find 83 = .ok (.aload 7, 2) := by decide +kernel
theorem d_O_find_85 : decode b_O_find 85 = .ok (.invokevirtual 32, 3) := by decide +kernel
theorem d_O_find_88 : decode b_O_find 88 = .ok (.ireturn, 1) := by decide +kernel
theorem d_O_find_89 : decode b_O_find 89 = .ok (.iinc 6 1, 3) := by decide +kernel
theorem d_O_find_92 : decode b_O_find 92 = .ok (.goto (-59), 3) := by decide +kernel
theorem d_O_find_95 : decode b_O_find 95 = .ok (.iinc 5 1, 3) := by decide +kernel
theorem d_O_find_98 : decode b_O_find 98 = .ok (.goto (-80), 3) := by decide +kernel
theorem d_O_find_101 : decode b_O_find 101 = .ok (.iinc 4 1, 3) := by decide +kernel
theorem d_O_find_104 : decode b_O_find 104 = .ok (.goto (-101), 3) := by decide +kernel
theorem d_O_find_107 : decode b_O_find 107 = .ok (.new 36, 3) := by decide +kernel
theorem d_O_find_110 : decode b_O_find 110 = .ok (.dup, 1) := by decide +kernel
theorem d_O_find_111 : decode b_O_find 111 = .ok (.ldc 38, 2) := by decide +kernel
theorem d_O_find_113 : decode b_O_find 113 = .ok (.invokespecial 40, 3) := by decide +kernel
theorem d_O_find_116 : decode b_O_find 116 = .ok (.athrow, 1) := by decide +kernel
theorem d_O_haveBetween_0 : decode b_O_haveBetween 0 = .ok (.aload_n 0, 1) := by decide +kernel
theorem d_O_haveBetween_1 : decode b_O_haveBetween 1 = .ok (.getfield 9, 3) := by decide +kernel
theorem d_O_haveBetween_4 : decode b_O_haveBetween 4 = .ok (.iload_n 1, 1) := by decide +kernel
theorem d_O_haveBetween_5 : decode b_O_haveBetween 5 = .ok (.iaload, 1) := by decide +kernel
theorem d_O_haveBetween_6 : decode b_O_haveBetween 6 = .ok (.aload_n 0, 1) := by decide +kernel
theorem d_O_haveBetween_7 : decode b_O_haveBetween 7 = .ok (.getfield 15, 3) := by decide +kernel
theorem d_O_haveBetween_10 : decode b_O_haveBetween 10 = .ok (.iload_n 1, 1) := by decide +kernel
theorem d_O_haveBetween_11 : decode b_O_haveBetween 11 = .ok (.iaload, 1) := by decide +kernel
theorem d_O_haveBetween_12 : decode b_O_haveBetween 12 = .ok (.aload_n 0, 1) := by decide +kernel
theorem d_O_haveBetween_13 : decode b_O_haveBetween 13 = .ok (.getfield 9, 3) := by decide +kernel
theorem d_O_haveBetween_16 : decode b_O_haveBetween 16 = .ok (.iload_n 2, 1) := by decide +kernel
theorem d_O_haveBetween_17 : decode b_O_haveBetween 17 = .ok (.iaload, 1) := by decide +kernel
theorem d_O_haveBetween_18 : decode b_O_haveBetween 18 = .ok (.aload_n 0, 1) := by decide +kernel
theorem d_O_haveBetween_19 : decode b_O_haveBetween 19 = .ok (.getfield 15, 3) := by decide +kernel
theorem d_O_haveBetween_22 : decode b_O_haveBetween 22 = .ok (.iload_n 2, 1) := by decide +kernel
theorem d_O_haveBetween_23 : decode b_O_haveBetween 23 = .ok (.iaload, 1) := by decide +kernel
theorem d_O_haveBetween_24 : decode b_O_haveBetween 24 = .ok (.aload_n 0, 1) := by decide +kernel
theorem d_O_haveBetween_25 : decode b_O_haveBetween 25 = .ok (.getfield 9, 3) := by decide +kernel
theorem d_O_haveBetween_28 : decode b_O_haveBetween 28 = .ok (.iload_n 3, 1) := by decide +kernel
theorem d_O_haveBetween_29 : decode b_O_haveBetween 29 = .ok (.iaload, 1) := by decide +kernel
theorem d_O_haveBetween_30 : decode b_O_haveBetween 30 = .ok (.aload_n 0, 1) := by decide +kernel
theorem d_O_haveBetween_31 : decode b_O_haveBetween 31 = .ok (.getfield 15, 3) := by decide +kernel
theorem d_O_haveBetween_34 : decode b_O_haveBetween 34 = .ok (.iload_n 3, 1) := by decide +kernel
theorem d_O_haveBetween_35 : decode b_O_haveBetween 35 = .ok (.iaload, 1) := by decide +kernel
theorem d_O_haveBetween_36 : decode b_O_haveBetween 36 = .ok (.invokestatic 43, 3) := by decide +kernel
theorem d_O_haveBetween_39 : decode b_O_haveBetween 39 = .ok (.lstore 6, 2) := by decide +kernel
theorem d_O_haveBetween_41 : decode b_O_haveBetween 41 = .ok (.aload_n 0, 1) := by decide +kernel
theorem d_O_haveBetween_42 : decode b_O_haveBetween 42 = .ok (.iload_n 2, 1) := by decide +kernel
theorem d_O_haveBetween_43 : decode b_O_haveBetween 43 = .ok (.iload_n 3, 1) := by decide +kernel
theorem d_O_haveBetween_44 : decode b_O_haveBetween 44 = .ok (.iload 4, 2) := by decide +kernel
theorem d_O_haveBetween_46 : decode b_O_haveBetween 46 = .ok (.iload 5, 2) := by decide +kernel
theorem d_O_haveBetween_48 : decode b_O_haveBetween 48 = .ok (.invokevirtual 47, 3) := by decide +kernel
theorem d_O_haveBetween_51 : decode b_O_haveBetween 51 = .ok (.lstore 8, 2) := by decide +kernel
theorem d_O_haveBetween_53 : decode b_O_haveBetween 53 = .ok (.aload_n 0, 1) := by decide +kernel
theorem d_O_haveBetween_54 : decode b_O_haveBetween 54 = .ok (.iload_n 3, 1) := by decide +kernel
theorem d_O_haveBetween_55 : decode b_O_haveBetween 55 = .ok (.iload_n 1, 1) := by decide +kernel
theorem d_O_haveBetween_56 : decode b_O_haveBetween 56 = .ok (.iload 4, 2) := by decide +kernel
theorem d_O_haveBetween_58 : decode b_O_haveBetween 58 = .ok (.iload 5, 2) := by decide +kernel
theorem d_O_haveBetween_60 : decode b_O_haveBetween 60 = .ok (.invokevirtual 47, 3) := by decide +kernel
theorem d_O_haveBetween_63 : decode b_O_haveBetween 63 = .ok (.lstore 10, 2) := by decide +kernel
theorem d_O_haveBetween_65 : decode b_O_haveBetween 65 = .ok (.aload_n 0, 1) := by decide +kernel
theorem d_O_haveBetween_66 : decode b_O_haveBetween 66 = .ok (.iload_n 1, 1) := by decide +kernel
theorem d_O_haveBetween_67 : decode b_O_haveBetween 67 = .ok (.iload_n 2, 1) := by decide +kernel
theorem d_O_haveBetween_68 : decode b_O_haveBetween 68 = .ok (.iload 4, 2) := by decide +kernel
theorem d_O_haveBetween_70 : decode b_O_haveBetween 70 = .ok (.iload 5, 2) := by decide +kernel
theorem d_O_haveBetween_72 : decode b_O_haveBetween 72 = .ok (.invokevirtual 47, 3) := by decide +kernel
theorem d_O_haveBetween_75 : decode b_O_haveBetween 75 = .ok (.lstore 12, 2) := by decide +kernel
theorem d_O_haveBetween_77 : decode b_O_haveBetween 77 = .ok (.lload 6, 2) := by decide +kernel
theorem d_O_haveBetween_79 : decode b_O_haveBetween 79 = .ok (.lconst 0, 1) := by decide +kernel
theorem d_O_haveBetween_80 : decode b_O_haveBetween 80 = .ok (.lcmp, 1) := by decide +kernel
theorem d_O_haveBetween_81 : decode b_O_haveBetween 81 = .ok (.ifCond .le 24, 3) := by decide +kernel
theorem d_O_haveBetween_84 : decode b_O_haveBetween 84 = .ok (.lload 8, 2) := by decide +kernel
theorem d_O_haveBetween_86 : decode b_O_haveBetween 86 = .ok (.lconst 0, 1) := by decide +kernel
theorem d_O_haveBetween_87 : decode b_O_haveBetween 87 = .ok (.lcmp, 1) := by decide +kernel
theorem d_O_haveBetween_88 : decode b_O_haveBetween 88 = .ok (.ifCond .lt 17, 3) := by decide +kernel
theorem d_O_haveBetween_91 : decode b_O_haveBetween 91 = .ok (.lload 10, 2) := by decide +kernel
theorem d_O_haveBetween_93 : decode b_O_haveBetween 93 = .ok (.lconst 0, 1) := by decide +kernel
theorem d_O_haveBetween_94 : decode b_O_haveBetween 94 = .ok (.lcmp, 1) := by decide +kernel
theorem d_O_haveBetween_95 : decode b_O_haveBetween 95 = .ok (.ifCond .lt 10, 3) := by decide +kernel
theorem d_O_haveBetween_98 : decode b_O_haveBetween 98 = .ok (.lload 12, 2) := by decide +kernel
theorem d_O_haveBetween_100 : decode b_O_haveBetween 100 = .ok (.lconst 0, 1) := by decide +kernel
theorem d_O_haveBetween_101 : decode b_O_haveBetween 101 = .ok (.lcmp, 1) := by decide +kernel
theorem d_O_haveBetween_102 : decode b_O_haveBetween 102 = .ok (.ifCond .ge 31, 3) := by decide +kernel
theorem d_O_haveBetween_105 : decode b_O_haveBetween 105 = .ok (.lload 6, 2) := by decide +kernel
theorem d_O_haveBetween_107 : decode b_O_haveBetween 107 = .ok (.lconst 0, 1) := by decide +kernel
theorem d_O_haveBetween_108 : decode b_O_haveBetween 108 = .ok (.lcmp, 1) := by decide +kernel
theorem d_O_haveBetween_109 : decode b_O_haveBetween 109 = .ok (.ifCond .ge 28, 3) := by decide +kernel
theorem d_O_haveBetween_112 : decode b_O_haveBetween 112 = .ok (.lload 8, 2) := by decide +kernel
theorem d_O_haveBetween_114 : decode b_O_haveBetween 114 = .ok (.lconst 0, 1) := by decide +kernel
theorem d_O_haveBetween_115 : decode b_O_haveBetween 115 = .ok (.lcmp, 1) := by decide +kernel
theorem d_O_haveBetween_116 : decode b_O_haveBetween 116 = .ok (.ifCond .gt 21, 3) := by decide +kernel
theorem d_O_haveBetween_119 : decode b_O_haveBetween 119 = .ok (.lload 10, 2) := by decide +kernel
theorem d_O_haveBetween_121 : decode b_O_haveBetween 121 = .ok (.lconst 0, 1) := by decide +kernel
theorem d_O_haveBetween_122 : decode b_O_haveBetween 122 = .ok (.lcmp, 1) := by decide +kernel
theorem d_O_haveBetween_123 : decode b_O_haveBetween 123 = .ok (.ifCond .gt 14, 3) := by decide +kernel
theorem d_O_haveBetween_126 : decode b_O_haveBetween 126 = .ok (.lload 12, 2) := by decide +kernel
theorem d_O_haveBetween_128 : decode b_O_haveBetween 128 = .ok (.lconst 0, 1) := by decide +kernel
theorem d_O_haveBetween_129 : decode b_O_haveBetween 129 = .ok (.lcmp, 1) := by decide +kernel
theorem d_O_haveBetween_130 : decode b_O_haveBetween 130 = .ok (.ifCond .gt 7, 3) := by decide +kernel
theorem d_O_haveBetween_133 : decode b_O_haveBetween 133 = .ok (.iconst 1, 1) := by decide +kernel
theorem d_O_haveBetween_134 : decode b_O_haveBetween 134 = .ok (.goto 4, 3) := by decide +kernel
theorem d_O_haveBetween_137 : decode b_O_haveBetween 137 = .ok (.iconst 0, 1) := by decide +kernel
theorem d_O_haveBetween_138 : decode b_O_haveBetween 138 = .ok (.ireturn, 1) := by decide +kernel
theorem d_O_valueBetween_0 : decode b_O_valueBetween 0 = .ok (.aload_n 0, 1) := by decide +kernel
theorem d_O_valueBetween_1 : decode b_O_valueBetween 1 = .ok (.iload_n 2, 1) := by decide +kernel
theorem d_O_valueBetween_2 : decode b_O_valueBetween 2 = .ok (.iload_n 3, 1) := by decide +kernel
theorem d_O_valueBetween_3 : decode b_O_valueBetween 3 = .ok (.iload 4, 2) := by decide +kernel
theorem d_O_valueBetween_5 : decode b_O_valueBetween 5 = .ok (.iload 5, 2) := by decide +kernel
theorem d_O_valueBetween_7 : decode b_O_valueBetween 7 = .ok (.invokevirtual 47, 3) := by decide +kernel
theorem d_O_valueBetween_10 : decode b_O_valueBetween 10 = .ok (.lstore 7, 2) := by decide +kernel
theorem d_O_valueBetween_12 : decode b_O_valueBetween 12 = .ok (.aload_n 0, 1) := by decide +kernel
theorem d_O_valueBetween_13 : decode b_O_valueBetween 13 = .ok (.iload_n 3, 1) := by decide +kernel
theorem d_O_valueBetween_14 : decode b_O_valueBetween 14 = .ok (.iload_n 1, 1) := by decide +kernel
theorem d_O_valueBetween_15 : decode b_O_valueBetween 15 = .ok (.iload 4, 2) := by decide +kernel
theorem d_O_valueBetween_17 : decode b_O_valueBetween 17 = .ok (.iload 5, 2) := by decide +kernel
theorem d_O_valueBetween_19 : decode b_O_valueBetween 19 = .ok (.invokevirtual 47, 3) := by decide +kernel
theorem d_O_valueBetween_22 : decode b_O_valueBetween 22 = .ok (.lstore 9, 2) := by decide +kernel
theorem d_O_valueBetween_24 : decode b_O_valueBetween 24 = .ok (.aload_n 0, 1) := by decide +kernel
theorem d_O_valueBetween_25 : decode b_O_valueBetween 25 = .ok (.iload_n 1, 1) := by decide +kernel
theorem d_O_valueBetween_26 : decode b_O_valueBetween 26 = .ok (.iload_n 2, 1) := by decide +kernel
theorem d_O_valueBetween_27 : decode b_O_valueBetween 27 = .ok (.iload 4, 2) := by decide +kernel
theorem d_O_valueBetween_29 : decode b_O_valueBetween 29 = .ok (.iload 5, 2) := by decide +kernel
theorem d_O_valueBetween_31 : decode b_O_valueBetween 31 = .ok (.invokevirtual 47, 3) := by decide +kernel
theorem d_O_valueBetween_34 : decode b_O_valueBetween 34 = .ok (.lstore 11, 2) := by decide +kernel
theorem d_O_valueBetween_36 : decode b_O_valueBetween 36 = .ok (.lload 7, 2) := by decide +kernel
theorem d_O_valueBetween_38 : decode b_O_valueBetween 38 = .ok (.aload 6, 2) := by decide +kernel
theorem d_O_valueBetween_40 : decode b_O_valueBetween 40 = .ok (.iload_n 1, 1) := by decide +kernel
theorem d_O_valueBetween_41 : decode b_O_valueBetween 41 = .ok (.iaload, 1) := by decide +kernel
theorem d_O_valueBetween_42 : decode b_O_valueBetween 42 = .ok (.i2l, 1) := by decide +kernel
theorem d_O_valueBetween_43 : decode b_O_valueBetween 43 = .ok (.lmul, 1) := by decide +kernel
theorem d_O_valueBetween_44 : decode b_O_valueBetween 44 = .ok (.lload 9, 2) := by decide +kernel
theorem d_O_valueBetween_46 : decode b_O_valueBetween 46 = .ok (.aload 6, 2) := by decide +kernel
theorem d_O_valueBetween_48 : decode b_O_valueBetween 48 = .ok (.iload_n 2, 1) := by decide +kernel
theorem d_O_valueBetween_49 : decode b_O_valueBetween 49 = .ok (.iaload, 1) := by decide +kernel
theorem d_O_valueBetween_50 : decode b_O_valueBetween 50 = .ok (.i2l, 1) := by decide +kernel
theorem d_O_valueBetween_51 : decode b_O_valueBetween 51 = .ok (.lmul, 1) := by decide +kernel
theorem d_O_valueBetween_52 : decode b_O_valueBetween 52 = .ok (.ladd, 1) := by decide +kernel
theorem d_O_valueBetween_53 : decode b_O_valueBetween 53 = .ok (.lload 11, 2) := by decide +kernel
theorem d_O_valueBetween_55 : decode b_O_valueBetween 55 = .ok (.aload 6, 2) := by decide +kernel
theorem d_O_valueBetween_57 : decode b_O_valueBetween 57 = .ok (.iload_n 3, 1) := by decide +kernel
theorem d_O_valueBetween_58 : decode b_O_valueBetween 58 = .ok (.iaload, 1) := by decide +kernel
theorem d_O_valueBetween_59 : decode b_O_valueBetween 59 = .ok (.i2l, 1) := by decide +kernel
theorem d_O_valueBetween_60 : decode b_O_valueBetween 60 = .ok (.lmul, 1) := by decide +kernel
theorem d_O_valueBetween_61 : decode b_O_valueBetween 61 = .ok (.ladd, 1) := by decide +kernel
theorem d_O_valueBetween_62 : decode b_O_valueBetween 62 = .ok (.lload 7, 2) := by decide +kernel
theorem d_O_valueBetween_64 : decode b_O_valueBetween 64 = .ok (.lload 9, 2) := by decide +kernel
theorem d_O_valueBetween_66 : decode b_O_valueBetween 66 = .ok (.ladd, 1) := by decide +kernel
theorem d_O_valueBetween_67 : decode b_O_valueBetween 67 = .ok (.lload 11, 2) := by decide +kernel
theorem d_O_valueBetween_69 : decode b_O_valueBetween 69 = .ok (.ladd, 1) := by decide +kernel
theorem d_O_valueBetween_70 : decode b_O_valueBetween 70 = .ok (.invokestatic 51, 3) := by decide +kernel
theorem d_O_valueBetween_73 : decode b_O_valueBetween 73 = .ok (.ireturn, 1) := by decide +kernel
theorem d_O_share_0 : decode b_O_share 0 = .ok (.aload_n 0, 1) := by decide +kernel
theorem d_O_share_1 : decode b_O_share 1 = .ok (.getfield 9, 3) := by decide +kernel
theorem d_O_share_4 : decode b_O_share 4 = .ok (.iload_n 1, 1) := by decide +kernel
theorem d_O_share_5 : decode b_O_share 5 = .ok (.iaload, 1) := by decide +kernel
theorem d_O_share_6 : decode b_O_share 6 = .ok (.aload_n 0, 1) := by decide +kernel
theorem d_O_share_7 : decode b_O_share 7 = .ok (.getfield 15, 3) := by decide +kernel
theorem d_O_share_10 : decode b_O_share 10 = .ok (.iload_n 1, 1) := by decide +kernel
theorem d_O_share_11 : decode b_O_share 11 = .ok (.iaload, 1) := by decide +kernel
theorem d_O_share_12 : decode b_O_share 12 = .ok (.aload_n 0, 1) := by decide +kernel
theorem d_O_share_13 : decode b_O_share 13 = .ok (.getfield 9, 3) := by decide +kernel
theorem d_O_share_16 : decode b_O_share 16 = .ok (.iload_n 2, 1) := by decide +kernel
theorem d_O_share_17 : decode b_O_share 17 = .ok (.iaload, 1) := by decide +kernel
theorem d_O_share_18 : decode b_O_share 18 = .ok (.aload_n 0, 1) := by decide +kernel
theorem d_O_share_19 : decode b_O_share 19 = .ok (.getfield 15, 3) := by decide +kernel
theorem d_O_share_22 : decode b_O_share 22 = .ok (.iload_n 2, 1) := by decide +kernel
theorem d_O_share_23 : decode b_O_share 23 = .ok (.iaload, 1) := by decide +kernel
theorem d_O_share_24 : decode b_O_share 24 = .ok (.iload_n 3, 1) := by decide +kernel
theorem d_O_share_25 : decode b_O_share 25 = .ok (.iload 4, 2) := by decide +kernel
theorem d_O_share_27 : decode b_O_share 27 = .ok (.invokestatic 43, 3) := by decide +kernel
theorem d_O_share_30 : decode b_O_share 30 = .ok (.lreturn, 1) := by decide +kernel
theorem d_O_roundedQuotient_0 : decode b_O_roundedQuotient 0 = .ok (.lload_n 2, 1) := by decide +kernel
theorem d_O_roundedQuotient_1 : decode b_O_roundedQuotient 1 = .ok (.lconst 0, 1) := by decide +kernel
theorem d_O_roundedQuotient_2 : decode b_O_roundedQuotient 2 = .ok (.lcmp, 1) := by decide +kernel
theorem d_O_roundedQuotient_3 : decode b_O_roundedQuotient 3 = .ok (.ifCond .ne 5, 3) := by decide +kernel
theorem d_O_roundedQuotient_6 : decode b_O_roundedQuotient 6 = .ok (.iconst 0, 1) := by decide +kernel
theorem d_O_roundedQuotient_7 : decode b_O_roundedQuotient 7 = .ok (.ireturn, 1) := by decide +kernel
theorem d_O_roundedQuotient_8 : decode b_O_roundedQuotient 8 = .ok (.lload_n 2, 1) := by decide +kernel
theorem d_O_roundedQuotient_9 : decode b_O_roundedQuotient 9 = .ok (.lconst 0, 1) := by decide +kernel
theorem d_O_roundedQuotient_10 : decode b_O_roundedQuotient 10 = .ok (.lcmp, 1) := by decide +kernel
theorem d_O_roundedQuotient_11 : decode b_O_roundedQuotient 11 = .ok (.ifCond .le 7, 3) := by decide +kernel
theorem d_O_roundedQuotient_14 : decode b_O_roundedQuotient 14 = .ok (.lload_n 0, 1) := by decide +kernel
theorem d_O_roundedQuotient_15 : decode b_O_roundedQuotient 15 = .ok (.goto 5, 3) := by decide +kernel
theorem d_O_roundedQuotient_18 : decode b_O_roundedQuotient 18 = .ok (.lload_n 0, 1) := by decide +kernel
theorem d_O_roundedQuotient_19 : decode b_O_roundedQuotient 19 = .ok (.lneg, 1) := by decide +kernel
theorem d_O_roundedQuotient_20 : decode b_O_roundedQuotient 20 = .ok (.lstore 4, 2) := by decide +kernel
theorem d_O_roundedQuotient_22 : decode b_O_roundedQuotient 22 = .ok (.lload_n 2, 1) := by decide +kernel
theorem d_O_roundedQuotient_23 : decode b_O_roundedQuotient 23 = .ok (.invokestatic 55, 3) := by decide +kernel
theorem d_O_roundedQuotient_26 : decode b_O_roundedQuotient 26 = .ok (.lstore 6, 2) := by decide +kernel
theorem d_O_roundedQuotient_28 : decode b_O_roundedQuotient 28 = .ok (.ldc2_w 61, 3) := by decide +kernel
theorem d_O_roundedQuotient_31 : decode b_O_roundedQuotient 31 = .ok (.lload 4, 2) := by decide +kernel
theorem d_O_roundedQuotient_33 : decode b_O_roundedQuotient 33 = .ok (.lmul, 1) := by decide +kernel
theorem d_O_roundedQuotient_34 : decode b_O_roundedQuotient 34 = .ok (.lload 6, 2) := by decide +kernel
theorem d_O_roundedQuotient_36 : decode b_O_roundedQuotient 36 = .ok (.ladd, 1) := by decide +kernel
theorem d_O_roundedQuotient_37 : decode b_O_roundedQuotient 37 = .ok (.ldc2_w 61, 3) := by decide +kernel
theorem d_O_roundedQuotient_40 : decode b_O_roundedQuotient 40 = .ok (.lload 6, 2) := by decide +kernel
theorem d_O_roundedQuotient_42 : decode b_O_roundedQuotient 42 = .ok (.lmul, 1) := by decide +kernel
theorem d_O_roundedQuotient_43 : decode b_O_roundedQuotient 43 = .ok (.invokestatic 63, 3) := by decide +kernel
theorem d_O_roundedQuotient_46 : decode b_O_roundedQuotient 46 = .ok (.l2i, 1) := by decide +kernel
theorem d_O_roundedQuotient_47 : decode b_O_roundedQuotient 47 = .ok (.ireturn, 1) := by decide +kernel
