theorem d_B_turn_0 : decode b_B_turn 0 = .ok (.iload_n 2, 1) := by decide +kernel
theorem d_B_turn_1 : decode b_B_turn 1 = .ok (.iload_n 0, 1) := by decide +kernel
theorem d_B_turn_2 : decode b_B_turn 2 = .ok (.isub, 1) := by decide +kernel
theorem d_B_turn_3 : decode b_B_turn 3 = .ok (.i2l, 1) := by decide +kernel
theorem d_B_turn_4 : decode b_B_turn 4 = .ok (.iload 5, 2) := by decide +kernel
theorem d_B_turn_6 : decode b_B_turn 6 = .ok (.iload_n 1, 1) := by decide +kernel
theorem d_B_turn_7 : decode b_B_turn 7 = .ok (.isub, 1) := by decide +kernel
theorem d_B_turn_8 : decode b_B_turn 8 = .ok (.i2l, 1) := by decide +kernel
theorem d_B_turn_9 : decode b_B_turn 9 = .ok (.lmul, 1) := by decide +kernel
theorem d_B_turn_10 : decode b_B_turn 10 = .ok (.iload_n 3, 1) := by decide +kernel
theorem d_B_turn_11 : decode b_B_turn 11 = .ok (.iload_n 1, 1) := by decide +kernel
theorem d_B_turn_12 : decode b_B_turn 12 = .ok (.isub, 1) := by decide +kernel
theorem d_B_turn_13 : decode b_B_turn 13 = .ok (.i2l, 1) := by decide +kernel
theorem d_B_turn_14 : decode b_B_turn 14 = .ok (.iload 4, 2) := by decide +kernel
theorem d_B_turn_16 : decode b_B_turn 16 = .ok (.iload_n 0, 1) := by decide +kernel
theorem d_B_turn_17 : decode b_B_turn 17 = .ok (.isub, 1) := by decide +kernel
theorem d_B_turn_18 : decode b_B_turn 18 = .ok (.i2l, 1) := by decide +kernel
theorem d_B_turn_19 : decode b_B_turn 19 = .ok (.lmul, 1) := by decide +kernel
theorem d_B_turn_20 : decode b_B_turn 20 = .ok (.lsub, 1) := by decide +kernel
theorem d_B_turn_21 : decode b_B_turn 21 = .ok (.lreturn, 1) := by decide +kernel
theorem d_B_isBetween_0 : decode b_B_isBetween 0 = .ok (.iload_n 0, 1) := by decide +kernel
theorem d_B_isBetween_1 : decode b_B_isBetween 1 = .ok (.iload_n 1, 1) := by decide +kernel
theorem d_B_isBetween_2 : decode b_B_isBetween 2 = .ok (.invokestatic 185, 3) := by decide +kernel
theorem d_B_isBetween_5 : decode b_B_isBetween 5 = .ok (.iload_n 2, 1) := by decide +kernel
theorem d_B_isBetween_6 : decode b_B_isBetween 6 = .ok (.if_icmp .gt 16, 3) := by decide +kernel
theorem d_B_isBetween_9 : decode b_B_isBetween 9 = .ok (.iload_n 2, 1) := by decide +kernel
theorem d_B_isBetween_10 : decode b_B_isBetween 10 = .ok (.iload_n 0, 1) := by decide +kernel
theorem d_B_isBetween_11 : decode b_B_isBetween 11 = .ok (.iload_n 1, 1) := by decide +kernel
theorem d_B_isBetween_12 : decode b_B_isBetween 12 = .ok (.invokestatic 188, 3) := by decide +kernel
theorem d_B_isBetween_15 : decode b_B_isBetween 15 = .ok (.if_icmp .gt 7, 3) := by decide +kernel
theorem d_B_isBetween_18 : decode b_B_isBetween 18 = .ok (.iconst 1, 1) := by decide +kernel
theorem d_B_isBetween_19 : decode b_B_isBetween 19 = .ok (.goto 4, 3) := by decide +kernel
theorem d_B_isBetween_22 : decode b_B_isBetween 22 = .ok (.iconst 0, 1) := by decide +kernel
theorem d_B_isBetween_23 : decode b_B_isBetween 23 = .ok (.ireturn, 1) := by decide +kernel
theorem d_S_init_0 : decode b_S_init 0 = .ok (.aload_n 0, 1) := by decide +kernel
theorem d_S_init_1 : decode b_S_init 1 = .ok (.invokespecial 3, 3) := by decide +kernel
theorem d_S_init_4 : decode b_S_init 4 = .ok (.aload_n 0, 1) := by decide +kernel
theorem d_S_init_5 : decode b_S_init 5 = .ok (.iload_n 1, 1) := by decide +kernel
theorem d_S_init_6 : decode b_S_init 6 = .ok (.putfield 9, 3) := by decide +kernel
theorem d_S_init_9 : decode b_S_init 9 = .ok (.aload_n 0, 1) := by decide +kernel
theorem d_S_init_10 : decode b_S_init 10 = .ok (.iload_n 2, 1) := by decide +kernel
theorem d_S_init_11 : decode b_S_init 11 = .ok (.putfield 15, 3) := by decide +kernel
theorem d_S_init_14 : decode b_S_init 14 = .ok (.aload_n 0, 1) := by decide +kernel
theorem d_S_init_15 : decode b_S_init 15 = .ok (.iload_n 3, 1) := by decide +kernel
theorem d_S_init_16 : decode b_S_init 16 = .ok (.putfield 18, 3) := by decide +kernel
theorem d_S_init_19 : decode b_S_init 19 = .ok (.aload_n 0, 1) := by decide +kernel
theorem d_S_init_20 : decode b_S_init 20 = .ok (.iload 4, 2) := by decide +kernel
theorem d_S_init_22 : decode b_S_init 22 = .ok (.putfield 21, 3) := by decide +kernel
theorem d_S_init_25 : decode b_S_init 25 = .ok (.aload_n 0, 1) := by decide +kernel
theorem d_S_init_26 : decode b_S_init 26 = .ok (.bipush 12, 2) := by decide +kernel
theorem d_S_init_28 : decode b_S_init 28 = .ok (.newarray .int, 2) := by decide +kernel
theorem d_S_init_30 : decode b_S_init 30 = .ok (.putfield 24, 3) := by decide +kernel
theorem d_S_init_33 : decode b_S_init 33 = .ok (.aload_n 0, 1) := by decide +kernel
theorem d_S_init_34 : decode b_S_init 34 = .ok (.bipush 12, 2) := by decide +kernel
theorem d_S_init_36 : decode b_S_init 36 = .ok (.newarray .int, 2) := by decide +kernel
theorem d_S_init_38 : decode b_S_init 38 = .ok (.putfield 28, 3) := by decide +kernel
theorem d_S_init_41 : decode b_S_init 41 = .ok (.return_, 1) := by decide +kernel
theorem d_S_isClosed_0 : decode b_S_isClosed 0 = .ok (.aload_n 0, 1) := by decide +kernel
theorem d_S_isClosed_1 : decode b_S_isClosed 1 = .ok (.getfield 31, 3) := by decide +kernel
theorem d_S_isClosed_4 : decode b_S_isClosed 4 = .ok (.ifCond .le 7, 3) := by decide +kernel
theorem d_S_isClosed_7 : decode b_S_isClosed 7 = .ok (.iconst 1, 1) := by decide +kernel
theorem d_S_isClosed_8 : decode b_S_isClosed 8 = .ok (.goto 4, 3) := by decide +kernel
theorem d_S_isClosed_11 : decode b_S_isClosed 11 = .ok (.iconst 0, 1) := by decide +kernel
theorem d_S_isClosed_12 : decode b_S_isClosed 12 = .ok (.ireturn, 1) := by decide +kernel
theorem d_S_isFull_0 : decode b_S_isFull 0 = .ok (.aload_n 0, 1) := by decide +kernel
theorem d_S_isFull_1 : decode b_S_isFull 1 = .ok (.getfield 34, 3) := by decide +kernel
theorem d_S_isFull_4 : decode b_S_isFull 4 = .ok (.bipush 12, 2) := by decide +kernel
theorem d_S_isFull_6 : decode b_S_isFull 6 = .ok (.if_icmp .lt 7, 3) := by decide +kernel
theorem d_S_isFull_9 : decode b_S_isFull 9 = .ok (.iconst 1, 1) := by decide +kernel
theorem d_S_isFull_10 : decode b_S_isFull 10 = .ok (.goto 4, 3) := by decide +kernel
theorem d_S_isFull_13 : decode b_S_isFull 13 = .ok (.iconst 0, 1) := by decide +kernel
theorem d_S_isFull_14 : decode b_S_isFull 14 = .ok (.ireturn, 1) := by decide +kernel
theorem d_S_holdsFor_0 : decode b_S_holdsFor 0 = .ok (.aload_n 0, 1) := by decide +kernel
theorem d_S_holdsFor_1 : decode b_S_holdsFor 1 = .ok (.invokevirtual 37, 3) := by decide +kernel
theorem d_S_holdsFor_4 : decode b_S_holdsFor 4 = .ok (.ifCond .eq 31, 3) := by decide +kernel
theorem d_S_holdsFor_7 : decode b_S_holdsFor 7 = .ok (.aload_n 0, 1) := by decide +kernel
theorem d_S_holdsFor_8 : decode b_S_holdsFor 8 = .ok (.getfield 15, 3) := by decide +kernel
theorem d_S_holdsFor_11 : decode b_S_holdsFor 11 = .ok (.iload_n 1, 1) := by decide +kernel
theorem d_S_holdsFor_12 : decode b_S_holdsFor 12 = .ok (.if_icmp .ne 23, 3) := by decide +kernel
theorem d_S_holdsFor_15 : decode b_S_holdsFor 15 = .ok (.aload_n 0, 1) := by decide +kernel
theorem d_S_holdsFor_16 : decode b_S_holdsFor 16 = .ok (.getfield 18, 3) := by decide +kernel
theorem d_S_holdsFor_19 : decode b_S_holdsFor 19 = .ok (.iload_n 2, 1) := by decide +kernel
theorem d_S_holdsFor_20 : decode b_S_holdsFor 20 = .ok (.if_icmp .gt 15, 3) := by decide +kernel
theorem d_S_holdsFor_23 : decode b_S_holdsFor 23 = .ok (.iload_n 2, 1) := by decide +kernel
theorem d_S_holdsFor_24 : decode b_S_holdsFor 24 = .ok (.aload_n 0, 1) := by decide +kernel
theorem d_S_holdsFor_25 : decode b_S_holdsFor 25 = .ok (.getfield 21, 3) := by decide +kernel
theorem d_S_holdsFor_28 : decode b_S_holdsFor 28 = .ok (.if_icmp .gt 7, 3) := by decide +kernel
theorem d_S_holdsFor_31 : decode b_S_holdsFor 31 = .ok (.iconst 1, 1) := by decide +kernel
theorem d_S_holdsFor_32 : decode b_S_holdsFor 32 = .ok (.goto 4, 3) := by decide +kernel
theorem d_S_holdsFor_35 : decode b_S_holdsFor 35 = .ok (.iconst 0, 1) := by decide +kernel
theorem d_S_holdsFor_36 : decode b_S_holdsFor 36 = .ok (.ireturn, 1) := by decide +kernel
theorem d_S_addCorner_0 : decode b_S_addCorner 0 = .ok (.aload_n 0, 1) := by decide +kernel
theorem d_S_addCorner_1 : decode b_S_addCorner 1 = .ok (.getfield 24, 3) := by decide +kernel
theorem d_S_addCorner_4 : decode b_S_addCorner 4 = .ok (.aload_n 0, 1) := by decide +kernel
theorem d_S_addCorner_5 : decode b_S_addCorner 5 = .ok (.getfield 34, 3) := by decide +kernel
theorem d_S_addCorner_8 : decode b_S_addCorner 8 = .ok (.iload_n 1, 1) := by decide +kernel
theorem d_S_addCorner_9 : decode b_S_addCorner 9 = .ok (.iastore, 1) := by decide +kernel
theorem d_S_addCorner_10 : decode b_S_addCorner 10 = .ok (.aload_n 0, 1) := by decide +kernel
theorem d_S_addCorner_11 : decode b_S_addCorner 11 = .ok (.getfield 28, 3) := by decide +kernel
theorem d_S_addCorner_14 : decode b_S_addCorner 14 = .ok (.aload_n 0, 1) := by decide +kernel
theorem d_S_addCorner_15 : decode b_S_addCorner 15 = .ok (.getfield 34, 3) := by decide +kernel
theorem d_S_addCorner_18 : decode b_S_addCorner 18 = .ok (.iload_n 2, 1) := by decide +kernel
theorem d_S_addCorner_19 : decode b_S_addCorner 19 = .ok (.iastore, 1) := by decide +kernel
theorem d_S_addCorner_20 : decode b_S_addCorner 20 = .ok (.aload_n 0, 1) := by decide +kernel
theorem d_S_addCorner_21 : decode b_S_addCorner 21 = .ok (.dup, 1) := by decide +kernel
theorem d_S_addCorner_22 : decode b_S_addCorner 22 = .ok (.getfield 34, 3) := by decide +kernel
theorem d_S_addCorner_25 : decode b_S_addCorner 25 = .ok (.iconst 1, 1) := by decide +kernel
theorem d_S_addCorner_26 : decode b_S_addCorner 26 = .ok (.iadd, 1) := by decide +kernel
theorem d_S_addCorner_27 : decode b_S_addCorner 27 = .ok (.putfield 34, 3) := by decide +kernel
theorem d_S_addCorner_30 : decode b_S_addCorner 30 = .ok (.aload_n 0, 1) := by decide +kernel
theorem d_S_addCorner_31 : decode b_S_addCorner 31 = .ok (.getfield 34, 3) := by decide +kernel
theorem d_S_addCorner_34 : decode b_S_addCorner 34 = .ok (.ireturn, 1) := by decide +kernel
theorem d_S_leavePartner_0 : decode b_S_leavePartner 0 = .ok (.aload_n 0, 1) := by decide +kernel
theorem d_S_leavePartner_1 : decode b_S_leavePartner 1 = .ok (.getfield 41, 3) := by decide +kernel
theorem d_S_leavePartner_4 : decode b_S_leavePartner 4 = .ok (.ifnull 16, 3) := by decide +kernel
theorem d_S_leavePartner_7 : decode b_S_leavePartner 7 = .ok (.aload_n 0, 1) := by decide +kernel
theorem d_S_leavePartner_8 : decode b_S_leavePartner 8 = .ok (.getfield 41, 3) := by decide +kernel
theorem d_S_leavePartner_11 : decode b_S_leavePartner 11 = .ok (.aconst_null, 1) := by decide +kernel
theorem d_S_leavePartner_12 : decode b_S_leavePartner 12 = .ok (.putfield 41, 3) := by decide +kernel
theorem d_S_leavePartner_15 : decode b_S_leavePartner 15 = .ok (.aload_n 0, 1) := by decide +kernel
theorem d_S_leavePartner_16 : decode b_S_leavePartner 16 = .ok (.aconst_null, 1) := by decide +kernel
theorem d_S_leavePartner_17 : decode b_S_leavePartner 17 = .ok (.putfield 41, 3) := by decide +kernel
theorem d_S_leavePartner_20 : decode b_S_leavePartner 20 = .ok (.return_, 1) := by decide +kernel
theorem d_S_canClose_0 : decode b_S_canClose 0 = .ok (.aload_n 0, 1) := by decide +kernel
theorem d_S_canClose_1 : decode b_S_canClose 1 = .ok (.invokevirtual 37, 3) := by decide +kernel
theorem d_S_canClose_4 : decode b_S_canClose 4 = .ok (.ifCond .ne 11, 3) := by decide +kernel
theorem d_S_canClose_7 : decode b_S_canClose 7 = .ok (.aload_n 0, 1) := by decide +kernel
theorem d_S_canClose_8 : decode b_S_canClose 8 = .ok (.getfield 34, 3) := by decide +kernel
theorem d_S_canClose_11 : decode b_S_canClose 11 = .ok (.iconst 3, 1) := by decide +kernel
theorem d_S_canClose_12 : decode b_S_canClose 12 = .ok (.if_icmp .ge 5, 3) := by decide +kernel
theorem d_S_canClose_15 : decode b_S_canClose 15 = .ok (.iconst 0, 1) := by decide +kernel
theorem d_S_canClose_16 : decode b_S_canClose 16 = .ok (.ireturn, 1) := by decide +kernel
theorem d_S_canClose_17 : decode b_S_canClose 17 = .ok (.iconst 0, 1) := by decide +kernel
theorem d_S_canClose_18 : decode b_S_canClose 18 = .ok (.istore_n 1, 1) := by decide +kernel
theorem d_S_canClose_19 : decode b_S_canClose 19 = .ok (.iload_n 1, 1) := by decide +kernel
theorem d_S_canClose_20 : decode b_S_canClose 20 = .ok (.aload_n 0, 1) := by decide +kernel
theorem d_S_canClose_21 : decode b_S_canClose 21 = .ok (.getfield 34, 3) := by decide +kernel
theorem d_S_canClose_24 : decode b_S_canClose 24 = .ok (.if_icmp .ge 47, 3) := by decide +kernel
theorem d_S_canClose_27 : decode b_S_canClose 27 = .ok (.iload_n 1, 1) := by decide +kernel
theorem d_S_canClose_28 : decode b_S_canClose 28 = .ok (.iconst 1, 1) := by decide +kernel
theorem d_S_canClose_29 : decode b_S_canClose 29 = .ok (.iadd, 1) := by decide +kernel
theorem d_S_canClose_30 : decode b_S_canClose 30 = .ok (.istore_n 2, 1) := by decide +kernel
theorem d_S_canClose_31 : decode b_S_canClose 31 = .ok (.iload_n 2, 1) := by decide +kernel
theorem d_S_canClose_32 : decode b_S_canClose 32 = .ok (.aload_n 0, 1) := by decide +kernel
theorem d_S_canClose_33 : decode b_S_canClose 33 = .ok (.getfield 34, 3) := by decide +kernel
theorem d_S_canClose_36 : decode b_S_canClose 36 = .ok (.if_icmp .ge 29, 3) := by decide +kernel
theorem d_S_canClose_39 : decode b_S_canClose 39 = .ok (.aload_n 0, 1) := by decide +kernel
theorem d_S_canClose_40 : decode b_S_canClose 40 = .ok (.iload_n 1, 1) := by decide +kernel
theorem d_S_canClose_41 : decode b_S_canClose 41 = .ok (.iload_n 2, 1) := by decide +kernel
theorem d_S_canClose_42 : decode b_S_canClose 42 = .ok (.invokevirtual 45, 3) := by decide +kernel
theorem d_S_canClose_45 : decode b_S_canClose 45 = .ok (.ifCond .ne 12, 3) := by decide +kernel
theorem d_S_canClose_48 : decode b_S_canClose 48 = .ok (.aload_n 0, 1) := by decide +kernel
theorem d_S_canClose_49 : decode b_S_canClose 49 = .ok (.iload_n 1, 1) := by decide +kernel
theorem d_S_canClose_50 : decode b_S_canClose 50 = .ok (.iload_n 2, 1) := by decide +kernel
theorem d_S_canClose_51 : decode b_S_canClose 51 = .ok (.invokevirtual 49, 3) := by decide +kernel
theorem d_S_canClose_54 : decode b_S_canClose 54 = .ok (.ifCond .eq 5, 3) := by decide +kernel
theorem d_S_canClose_57 : decode b_S_canClose 57 = .ok (.iconst 0, 1) := by decide +kernel
theorem d_S_canClose_58 : decode b_S_canClose 58 = .ok (.ireturn, 1) := by decide +kernel
theorem d_S_canClose_59 : decode b_S_canClose 59 = .ok (.iinc 2 1, 3) := by decide +kernel
theorem d_S_canClose_62 : decode b_S_canClose 62 = .ok (.goto (-31), 3) := by decide +kernel
theorem d_S_canClose_65 : decode b_S_canClose 65 = .ok (.iinc 1 1, 3) := by decide +kernel
theorem d_S_canClose_68 : decode b_S_canClose 68 = .ok (.goto (-49), 3) := by decide +kernel
theorem d_S_canClose_71 : decode b_S_canClose 71 = .ok (.iconst 1, 1) := by decide +kernel
theorem d_S_canClose_72 : decode b_S_canClose 72 = .ok (.ireturn, 1) := by decide +kernel
theorem d_S_contains_0 : decode b_S_contains 0 = .ok (.iconst 0, 1) := by decide +kernel
theorem d_S_contains_1 : decode b_S_contains 1 = .ok (.istore_n 3, 1) := by decide +kernel
theorem d_S_contains_2 : decode b_S_contains 2 = .ok (.iconst 0, 1) := by decide +kernel
theorem d_S_contains_3 : decode b_S_contains 3 = .ok (.istore 4, 2) := by decide +kernel
theorem d_S_contains_5 : decode b_S_contains 5 = .ok (.iload 4, 2) := by decide +kernel
theorem d_S_contains_7 : decode b_S_contains 7 = .ok (.aload_n 0, 1) := by decide +kernel
theorem d_S_contains_8 : decode b_S_contains 8 = .ok (.getfield 34, 3) := by decide +kernel
theorem d_S_contains_11 : decode b_S_contains 11 = .ok (.if_icmp .ge 43, 3) := by decide +kernel
theorem d_S_contains_14 : decode b_S_contains 14 = .ok (.aload_n 0, 1) := by decide +kernel
theorem d_S_contains_15 : decode b_S_contains 15 = .ok (.iload 4, 2) := by decide +kernel
theorem d_S_contains_17 : decode b_S_contains 17 = .ok (.iload_n 1, 1) := by decide +kernel
theorem d_S_contains_18 : decode b_S_contains 18 = .ok (.iload_n 2, 1) := by decide +kernel
theorem d_S_contains_19 : decode b_S_contains 19 = .ok (.invokevirtual 52, 3) := by decide +kernel
theorem d_S_contains_22 : decode b_S_contains 22 = .ok (.ifCond .eq 5, 3) := by decide +kernel
theorem d_S_contains_25 : decode b_S_contains 25 = .ok (.iconst 1, 1) := by decide +kernel
theorem d_S_contains_26 : decode b_S_contains 26 = .ok (.ireturn, 1) := by decide +kernel
theorem d_S_contains_27 : decode b_S_contains 27 = .ok (.aload_n 0, 1) := by decide +kernel
theorem d_S_contains_28 : decode b_S_contains 28 = .ok (.iload 4, 2) := by decide +kernel
theorem d_S_contains_30 : decode b_S_contains 30 = .ok (.iload_n 1, 1) := by decide +kernel
theorem d_S_contains_31 : decode b_S_contains 31 = .ok (.iload_n 2, 1) := by decide +kernel
theorem d_S_contains_32 : decode b_S_contains 32 = .ok (.invokevirtual 56, 3) := by decide +kernel
theorem d_S_contains_35 : decode b_S_contains 35 = .ok (.ifCond .eq 13, 3) := by decide +kernel
theorem d_S_contains_38 : decode b_S_contains 38 = .ok (.iload_n 3, 1) := by decide +kernel
theorem d_S_contains_39 : decode b_S_contains 39 = .ok (.ifCond .ne 7, 3) := by decide +kernel
theorem d_S_contains_42 : decode b_S_contains 42 = .ok (.iconst 1, 1) := by decide +kernel
theorem d_S_contains_43 : decode b_S_contains 43 = .ok (.goto 4, 3) := by decide +kernel
theorem d_S_contains_46 : decode b_S_contains 46 = .ok (.iconst 0, 1) := by decide +kernel
theorem d_S_contains_47 : decode b_S_contains 47 = .ok (.istore_n 3, 1) := by decide +kernel
theorem d_S_contains_48 : decode b_S_contains 48 = .ok (.iinc 4 1, 3) := by decide +kernel
theorem d_S_contains_51 : decode b_S_contains 51 = .ok (.goto (-46), 3) := by decide +kernel
theorem d_S_contains_54 : decode b_S_contains 54 = .ok (.iload_n 3, 1) := by decide +kernel
theorem d_S_contains_55 : decode b_S_contains 55 = .ok (.ireturn, 1) := by decide +kernel
theorem d_S_containsCornersOf_0 : decode b_S_containsCornersOf 0 = .ok (.iconst 0, 1) := by decide +kernel
theorem d_S_containsCornersOf_1 : decode b_S_containsCornersOf 1 = .ok (.istore_n 2, 1) := by decide +kernel
theorem d_S_containsCornersOf_2 : decode b_S_containsCornersOf 2 = .ok (.iload_n 2, 1) := by decide +kernel
theorem d_S_containsCornersOf_3 : decode b_S_containsCornersOf 3 = .ok (.aload_n 1, 1) := by decide +kernel
theorem d_S_containsCornersOf_4 : decode b_S_containsCornersOf 4 = .ok (.getfield 34, 3) := by decide +kernel
theorem d_S_containsCornersOf_7 : decode b_S_containsCornersOf 7 = .ok (.if_icmp .ge 30, 3) := by decide +kernel
theorem d_S_containsCornersOf_10 : decode b_S_containsCornersOf 10 = .ok (.aload_n 0, 1) := by decide +kernel
theorem d_S_containsCornersOf_11 : decode b_S_containsCornersOf 11 = .ok (.aload_n 1, 1) := by decide +kernel
theorem d_S_containsCornersOf_12 : decode b_S_containsCornersOf 12 = .ok (.getfield 24, 3) := by decide +kernel
theorem d_S_containsCornersOf_15 : decode b_S_containsCornersOf 15 = .ok (.iload_n 2, 1) := by decide +kernel
theorem d_S_containsCornersOf_16 : decode b_S_containsCornersOf 16 = .ok (.iaload, 1) := by decide +kernel
theorem d_S_containsCornersOf_17 : decode b_S_containsCornersOf 17 = .ok (.aload_n 1, 1) := by decide +kernel
theorem d_S_containsCornersOf_18 : decode b_S_containsCornersOf 18 = .ok (.getfield 28, 3) := by decide +kernel
theorem d_S_containsCornersOf_21 : decode b_S_containsCornersOf 21 = .ok (.iload_n 2, 1) := by decide +kernel
theorem d_S_containsCornersOf_22 : decode b_S_containsCornersOf 22 = .ok (.iaload, 1) := by decide +kernel
theorem d_S_containsCornersOf_23 : decode b_S_containsCornersOf 23 = .ok (.invokevirtual 59, 3) := by decide +kernel
theorem d_S_containsCornersOf_26 : decode b_S_containsCornersOf 26 = .ok (.ifCond .ne 5, 3) := by decide +kernel
theorem d_S_containsCornersOf_29 : decode b_S_containsCornersOf 29 = .ok (.iconst 0, 1) := by decide +kernel
theorem d_S_containsCornersOf_30 : decode b_S_containsCornersOf 30 = .ok (.ireturn, 1) := by decide +kernel
theorem d_S_containsCornersOf_31 : decode b_S_containsCornersOf 31 = .ok (.iinc 2 1, 3) := by decide +kernel
theorem d_S_containsCornersOf_34 : decode b_S_containsCornersOf 34 = .ok (.goto (-32), 3) := by decide +kernel
theorem d_S_containsCornersOf_37 : decode b_S_containsCornersOf 37 = .ok (.iconst 1, 1) := by decide +kernel
theorem d_S_containsCornersOf_38 : decode b_S_containsCornersOf 38 = .ok (.ireturn, 1) := by decide +kernel
theorem d_S_doubledArea_0 : decode b_S_doubledArea 0 = .ok (.lconst 0, 1) := by decide +kernel
theorem d_S_doubledArea_1 : decode b_S_doubledArea 1 = .ok (.lstore_n 1, 1) := by decide +kernel
theorem d_S_doubledArea_2 : decode b_S_doubledArea 2 = .ok (.iconst 0, 1) := by decide +kernel
theorem d_S_doubledArea_3 : decode b_S_doubledArea 3 = .ok (.istore_n 3, 1) := by decide +kernel
theorem d_S_doubledArea_4 : decode b_S_doubledArea 4 = .ok (.iload_n 3, 1) := by decide +kernel
theorem d_S_doubledArea_5 : decode b_S_doubledArea 5 = .ok (.aload_n 0, 1) := by decide +kernel
theorem d_S_doubledArea_6 : decode b_S_doubledArea 6 = .ok (.getfield 34, 3) := by decide +kernel
theorem d_S_doubledArea_9 : decode b_S_doubledArea 9 = .ok (.if_icmp .ge 49, 3) := by decide +kernel
theorem d_S_doubledArea_12 : decode b_S_doubledArea 12 = .ok (.lload_n 1, 1) := by decide +kernel
theorem d_S_doubledArea_13 : decode b_S_doubledArea 13 = .ok (.iconst 0, 1) := by decide +kernel
theorem d_S_doubledArea_14 : decode b_S_doubledArea 14 = .ok (.iconst 0, 1) := by decide +kernel
theorem d_S_doubledArea_15 : decode b_S_doubledArea 15 = .ok (.aload_n 0, 1) := by decide +kernel
theorem d_S_doubledArea_16 : decode b_S_doubledArea 16 = .ok (.getfield 24, 3) := by decide +kernel
theorem d_S_doubledArea_19 : decode b_S_doubledArea 19 = .ok (.iload_n 3, 1) := by decide +kernel
theorem d_S_doubledArea_20 : decode b_S_doubledArea 20 = .ok (.iaload, 1) := by decide +kernel
theorem d_S_doubledArea_21 : decode b_S_doubledArea 21 = .ok (.aload_n 0, 1) := by decide +kernel
theorem d_S_doubledArea_22 : decode b_S_doubledArea 22 = .ok (.getfield 28, 3) := by decide +kernel
theorem d_S_doubledArea_25 : decode b_S_doubledArea 25 = .ok (.iload_n 3, 1) := by decide +kernel
theorem d_S_doubledArea_26 : decode b_S_doubledArea 26 = .ok (.iaload, 1) := by decide +kernel
theorem d_S_doubledArea_27 : decode b_S_doubledArea 27 = .ok (.aload_n 0, 1) := by decide +kernel
theorem d_S_doubledArea_28 : decode b_S_doubledArea 28 = .ok (.getfield 24, 3) := by decide +kernel
theorem d_S_doubledArea_31 : decode b_S_doubledArea 31 = .ok (.aload_n 0, 1) := by decide +kernel
theorem d_S_doubledArea_32 : decode b_S_doubledArea 32 = .ok (.iload_n 3, 1) := by decide +kernel
theorem d_S_doubledArea_33 : decode b_S_doubledArea 33 = .ok (.invokevirtual 62, 3) := by decide +kernel
theorem d_S_doubledArea_36 : decode b_S_doubledArea 36 = .ok (.iaload, 1) := by decide +kernel
theorem d_S_doubledArea_37 : decode b_S_doubledArea 37 = .ok (.aload_n 0, 1) := by decide +kernel
theorem d_S_doubledArea_38 : decode b_S_doubledArea 38 = .ok (.getfield 28, 3) := by decide +kernel
theorem d_S_doubledArea_41 : decode b_S_doubledArea 41 = .ok (.aload_n 0, 1) := by decide +kernel
theorem d_S_doubledArea_42 : decode b_S_doubledArea 42 = .ok (.iload_n 3, 1) := by decide +kernel
theorem d_S_doubledArea_43 : decode b_S_doubledArea 43 = .ok (.invokevirtual 62, 3) := by decide +kernel
theorem d_S_doubledArea_46 : decode b_S_doubledArea 46 = .ok (.iaload, 1) := by decide +kernel
theorem d_S_doubledArea_47 : decode b_S_doubledArea 47 = .ok (.invokestatic 66, 3) := by decide +kernel
theorem d_S_doubledArea_50 : decode b_S_doubledArea 50 = .ok (.ladd, 1) := by decide +kernel
theorem d_S_doubledArea_51 : decode b_S_doubledArea 51 = .ok (.lstore_n 1, 1) := by decide +kernel
theorem d_S_doubledArea_52 : decode b_S_doubledArea 52 = .ok (.iinc 3 1, 3) := by decide +kernel
theorem d_S_doubledArea_55 : decode b_S_doubledArea 55 = .ok (.goto (-51), 3) := by decide +kernel
theorem d_S_doubledArea_58 : decode b_S_doubledArea 58 = .ok (.lload_n 1, 1) := by decide +kernel
theorem d_S_doubledArea_59 : decode b_S_doubledArea 59 = .ok (.invokestatic 70, 3) := by decide +kernel
theorem d_S_doubledArea_62 : decode b_S_doubledArea 62 = .ok (.l2i, 1) := by decide +kernel
theorem d_S_doubledArea_63 : decode b_S_doubledArea 63 = .ok (.ireturn, 1) := by decide +kernel
theorem d_S_leastSquareTo_0 : decode b_S_leastSquareTo 0 = .ok (.aload_n 0, 1) := by decide +kernel
theorem d_S_leastSquareTo_1 : decode b_S_leastSquareTo 1 = .ok (.iconst 0, 1) := by decide +kernel
theorem d_S_leastSquareTo_2 : decode b_S_leastSquareTo 2 = .ok (.aload_n 1, 1) := by decide +kernel
theorem d_S_leastSquareTo_3 : decode b_S_leastSquareTo 3 = .ok (.iconst 0, 1) := by decide +kernel
theorem d_S_leastSquareTo_4 : decode b_S_leastSquareTo 4 = .ok (.invokevirtual 76, 3) := by decide +kernel
theorem d_S_leastSquareTo_7 : decode b_S_leastSquareTo 7 = .ok (.istore_n 2, 1) := by decide +kernel
theorem d_S_leastSquareTo_8 : decode b_S_leastSquareTo 8 = .ok (.iconst 0, 1) := by decide +kernel
theorem d_S_leastSquareTo_9 : decode b_S_leastSquareTo 9 = .ok (.istore_n 3, 1) := by decide +kernel
theorem d_S_leastSquareTo_10 : decode b_S_leastSquareTo 10 = .ok (.iload_n 3, 1) := by decide +kernel
theorem d_S_leastSquareTo_11 : decode b_S_leastSquareTo 11 = .ok (.aload_n 0, 1) := by decide +kernel
theorem d_S_leastSquareTo_12 : decode b_S_leastSquareTo 12 = .ok (.getfield 34, 3) := by decide +kernel
theorem d_S_leastSquareTo_15 : decode b_S_leastSquareTo 15 = .ok (.if_icmp .ge 40, 3) := by decide +kernel
theorem d_S_leastSquareTo_18 : decode b_S_leastSquareTo 18 = .ok (.iconst 0, 1) := by decide +kernel
theorem d_S_leastSquareTo_19 : decode b_S_leastSquareTo 19 = .ok (.istore 4, 2) := by decide +kernel
theorem d_S_leastSquareTo_21 : decode b_S_leastSquareTo 21 = .ok (.iload 4, 2) := by decide +kernel
theorem d_S_leastSquareTo_23 : decode b_S_leastSquareTo 23 = .ok (.aload_n 1, 1) := by decide +kernel
theorem d_S_leastSquareTo_24 : decode b_S_leastSquareTo 24 = .ok (.getfield 34, 3) := by decide +kernel
theorem d_S_leastSquareTo_27 : decode b_S_leastSquareTo 27 = .ok (.if_icmp .ge 22, 3) := by decide +kernel
theorem d_S_leastSquareTo_30 : decode b_S_leastSquareTo 30 = .ok (.iload_n 2, 1) := by decide +kernel
theorem d_S_leastSquareTo_31 : decode b_S_leastSquareTo 31 = .ok (.aload_n 0, 1) := by decide +kernel
theorem d_S_leastSquareTo_32 : decode b_S_leastSquareTo 32 = .ok (.iload_n 3, 1) := by decide +kernel
theorem d_S_leastSquareTo_33 : decode b_S_leastSquareTo 33 = .ok (.aload_n 1, 1) := by decide +kernel
theorem d_S_leastSquareTo_34 : decode b_S_leastSquareTo 34 = .ok (.iload 4, 2) := by decide +kernel
theorem d_S_leastSquareTo_36 : decode b_S_leastSquareTo 36 = .ok (.invokevirtual 76, 3) := by decide +kernel
theorem d_S_leastSquareTo_39 : decode b_S_leastSquareTo 39 = .ok (.invokestatic 80, 3) := by decide +kernel
theorem d_S_leastSquareTo_42 : decode b_S_leastSquareTo 42 = .ok (.istore_n 2, 1) := by decide +kernel
theorem d_S_leastSquareTo_43 : decode b_S_leastSquareTo 43 = .ok (.iinc 4 1, 3) := by decide +kernel
theorem d_S_leastSquareTo_46 : decode b_S_leastSquareTo 46 = .ok (.goto (-25), 3) := by decide +kernel
theorem d_S_leastSquareTo_49 : decode b_S_leastSquareTo 49 = .ok (.iinc 3 1, 3) := by decide +kernel
theorem d_S_leastSquareTo_52 : decode b_S_leastSquareTo 52 = .ok (.goto (-42), 3) := by decide +kernel
theorem d_S_leastSquareTo_55 : decode b_S_leastSquareTo 55 = .ok (.iload_n 2, 1) := by decide +kernel
theorem d_S_leastSquareTo_56 : decode b_S_leastSquareTo 56 = .ok (.ireturn, 1) := by decide +kernel
theorem d_S_squareBetween_0 : decode b_S_squareBetween 0 = .ok (.aload_n 0, 1) := by decide +kernel
theorem d_S_squareBetween_1 : decode b_S_squareBetween 1 = .ok (.getfield 24, 3) := by decide +kernel
theorem d_S_squareBetween_4 : decode b_S_squareBetween 4 = .ok (.iload_n 1, 1) := by decide +kernel
theorem d_S_squareBetween_5 : decode b_S_squareBetween 5 = .ok (.iaload, 1) := by decide +kernel
theorem d_S_squareBetween_6 : decode b_S_squareBetween 6 = .ok (.aload_n 2, 1) := by decide +kernel
theorem d_S_squareBetween_7 : decode b_S_squareBetween 7 = .ok (.getfield 24, 3) := by decide +kernel
theorem d_S_squareBetween_10 : decode b_S_squareBetween 10 = .ok (.iload_n 3, 1) := by decide +kernel
theorem d_S_squareBetween_11 : decode b_S_squareBetween 11 = .ok (.iaload, 1) := by decide +kernel
theorem d_S_squareBetween_12 : decode b_S_squareBetween 12 = .ok (.isub, 1) := by decide +kernel
theorem d_S_squareBetween_13 : decode b_S_squareBetween 13 = .ok (.istore 4, 2) := by decide +kernel
theorem d_S_squareBetween_15 : decode b_S_squareBetween 15 = .ok (.aload_n 0, 1) := by decide +kernel
theorem d_S_squareBetween_16 : decode b_S_squareBetween 16 = .ok (.getfield 28, 3) := by decide +kernel
theorem d_S_squareBetween_19 : decode b_S_squareBetween 19 = .ok (.iload_n 1, 1) := by decide +kernel
theorem d_S_squareBetween_20 : decode b_S_squareBetween 20 = .ok (.iaload, 1) := by decide +kernel
theorem d_S_squareBetween_21 : decode b_S_squareBetween 21 = .ok (.aload_n 2, 1) := by decide +kernel
theorem d_S_squareBetween_22 : decode b_S_squareBetween 22 = .ok (.getfield 28, 3) := by decide +kernel
theorem d_S_squareBetween_25 : decode b_S_squareBetween 25 = .ok (.iload_n 3, 1) := by decide +kernel
theorem d_S_squareBetween_26 : decode b_S_squareBetween 26 = .ok (.iaload, 1) := by decide +kernel
theorem d_S_squareBetween_27 : decode b_S_squareBetween 27 = .ok (.isub, 1) := by decide +kernel
theorem d_S_squareBetween_28 : decode b_S_squareBetween 28 = .ok (.istore 5, 2) := by decide +kernel
theorem d_S_squareBetween_30 : decode b_S_squareBetween 30 = .ok (.iload 4, 2) := by decide +kernel
theorem d_S_squareBetween_32 : decode b_S_squareBetween 32 = .ok (.iload 4, 2) := by decide +kernel
theorem d_S_squareBetween_34 : decode b_S_squareBetween 34 = .ok (.imul, 1) := by decide +kernel
theorem d_S_squareBetween_35 : decode b_S_squareBetween 35 = .ok (.iload 5, 2) := by decide +kernel
theorem d_S_squareBetween_37 : decode b_S_squareBetween 37 = .ok (.iload 5, 2) := by decide +kernel
theorem d_S_squareBetween_39 : decode b_S_squareBetween 39 = .ok (.imul, 1) := by decide +kernel
theorem d_S_squareBetween_40 : decode b_S_squareBetween 40 = .ok (.iadd, 1) := by decide +kernel
theorem d_S_squareBetween_41 : decode b_S_squareBetween 41 = .ok (.ireturn, 1) := by decide +kernel
theorem d_S_next_0 : decode b_S_next 0 = .ok (.iload_n 1, 1) := by decide +kernel
theorem d_S_next_1 : decode b_S_next 1 = .ok (.iconst 1, 1) := by decide +kernel
theorem d_S_next_2 : decode b_S_next 2 = .ok (.iadd, 1) := by decide +kernel
theorem d_S_next_3 : decode b_S_next 3 = .ok (.aload_n 0, 1) := by decide +kernel
theorem d_S_next_4 : decode b_S_next 4 = .ok (.getfield 34, 3) := by decide +kernel
theorem d_S_next_7 : decode b_S_next 7 = .ok (.if_icmp .ge 9, 3) := by decide +kernel
theorem d_S_next_10 : decode b_S_next 10 = .ok (.iload_n 1, 1) := by decide +kernel
theorem d_S_next_11 : decode b_S_next 11 = .ok (.iconst 1, 1) := by decide +kernel
theorem d_S_next_12 : decode b_S_next 12 = .ok (.iadd, 1) := by decide +kernel
theorem d_S_next_13 : decode b_S_next 13 = .ok (.goto 4, 3) := by decide +kernel
theorem d_S_next_16 : decode b_S_next 16 = .ok (.iconst 0, 1) := by decide +kernel
theorem d_S_next_17 : decode b_S_next 17 = .ok (.ireturn, 1) := by decide +kernel
theorem d_S_sameCorner_0 : decode b_S_sameCorner 0 = .ok (.aload_n 0, 1) := by decide +kernel
theorem d_S_sameCorner_1 : decode b_S_sameCorner 1 = .ok (.getfield 24, 3) := by decide +kernel
theorem d_S_sameCorner_4 : decode b_S_sameCorner 4 = .ok (.iload_n 1, 1) := by decide +kernel
theorem d_S_sameCorner_5 : decode b_S_sameCorner 5 = .ok (.iaload, 1) := by decide +kernel
theorem d_S_sameCorner_6 : decode b_S_sameCorner 6 = .ok (.aload_n 0, 1) := by decide +kernel
theorem d_S_sameCorner_7 : decode b_S_sameCorner 7 = .ok (.getfield 24, 3) := by decide +kernel
theorem d_S_sameCorner_10 : decode b_S_sameCorner 10 = .ok (.iload_n 2, 1) := by decide +kernel
theorem d_S_sameCorner_11 : decode b_S_sameCorner 11 = .ok (.iaload, 1) := by decide +kernel
theorem d_S_sameCorner_12 : decode b_S_sameCorner 12 = .ok (.if_icmp .ne 22, 3) := by decide +kernel
theorem d_S_sameCorner_15 : decode b_S_sameCorner 15 = .ok (.aload_n 0, 1) := by decide +kernel
theorem d_S_sameCorner_16 : decode b_S_sameCorner 16 = .ok (.getfield 28, 3) := by decide +kernel
theorem d_S_sameCorner_19 : decode b_S_sameCorner 19 = .ok (.iload_n 1, 1) := by decide +kernel
theorem d_S_sameCorner_20 : decode b_S_sameCorner 20 = .ok (.iaload, 1) := by decide +kernel
theorem d_S_sameCorner_21 : decode b_S_sameCorner 21 = .ok (.aload_n 0, 1) := by decide +kernel
theorem d_S_sameCorner_22 : decode b_S_sameCorner 22 = .ok (.getfield 28, 3) := by decide +kernel
theorem d_S_sameCorner_25 : decode b_S_sameCorner 25 = .ok (.iload_n 2, 1) := by decide +kernel
theorem d_S_sameCorner_26 : decode b_S_sameCorner 26 = .ok (.iaload, 1) := by decide +kernel
theorem d_S_sameCorner_27 : decode b_S_sameCorner 27 = .ok (.if_icmp .ne 7, 3) := by decide +kernel
theorem d_S_sameCorner_30 : decode b_S_sameCorner 30 = .ok (.iconst 1, 1) := by decide +kernel
theorem d_S_sameCorner_31 : decode b_S_sameCorner 31 = .ok (.goto 4, 3) := by decide +kernel
theorem d_S_sameCorner_34 : decode b_S_sameCorner 34 = .ok (.iconst 0, 1) := by decide +kernel
theorem d_S_sameCorner_35 : decode b_S_sameCorner 35 = .ok (.ireturn, 1) := by decide +kernel
theorem d_S_linesClash_0 : decode b_S_linesClash 0 = .ok (.aload_n 0, 1) := by decide +kernel
theorem d_S_linesClash_1 : decode b_S_linesClash 1 = .ok (.iload_n 1, 1) := by decide +kernel
theorem d_S_linesClash_2 : decode b_S_linesClash 2 = .ok (.invokevirtual 62, 3) := by decide +kernel
theorem d_S_linesClash_5 : decode b_S_linesClash 5 = .ok (.iload_n 2, 1) := by decide +kernel
theorem d_S_linesClash_6 : decode b_S_linesClash 6 = .ok (.if_icmp .ne 10, 3) := by decide +kernel
theorem d_S_linesClash_9 : decode b_S_linesClash 9 = .ok (.aload_n 0, 1) := by decide +kernel
theorem d_S_linesClash_10 : decode b_S_linesClash 10 = .ok (.iload_n 1, 1) := by decide +kernel
theorem d_S_linesClash_11 : decode b_S_linesClash 11 = .ok (.iload_n 2, 1) := by decide +kernel
theorem d_S_linesClash_12 : decode b_S_linesClash 12 = .ok (.invokevirtual 84, 3) := by decide +kernel
theorem d_S_linesClash_15 : decode b_S_linesClash 15 = .ok (.ireturn, 1) := by decide +kernel
theorem d_S_linesClash_16 : decode b_S_linesClash 16 = .ok (.aload_n 0, 1) := by decide +kernel
theorem d_S_linesClash_17 : decode b_S_linesClash 17 = .ok (.iload_n 2, 1) := by decide +kernel
theorem d_S_linesClash_18 : decode b_S_linesClash 18 = .ok (.invokevirtual 62, 3) := by decide +kernel
theorem d_S_linesClash_21 : decode b_S_linesClash 21 = .ok (.iload_n 1, 1) := by decide +kernel
theorem d_S_linesClash_22 : decode b_S_linesClash 22 = .ok (.if_icmp .ne 10, 3) := by decide +kernel
theorem d_S_linesClash_25 : decode b_S_linesClash 25 = .ok (.aload_n 0, 1) := by decide +kernel
theorem d_S_linesClash_26 : decode b_S_linesClash 26 = .ok (.iload_n 2, 1) := by decide +kernel
theorem d_S_linesClash_27 : decode b_S_linesClash 27 = .ok (.iload_n 1, 1) := by decide +kernel
theorem d_S_linesClash_28 : decode b_S_linesClash 28 = .ok (.invokevirtual 84, 3) := by decide +kernel
theorem d_S_linesClash_31 : decode b_S_linesClash 31 = .ok (.ireturn, 1) := by decide +kernel
theorem d_S_linesClash_32 : decode b_S_linesClash 32 = .ok (.aload_n 0, 1) := by decide +kernel
theorem d_S_linesClash_33 : decode b_S_linesClash 33 = .ok (.iload_n 1, 1) := by decide +kernel
theorem d_S_linesClash_34 : decode b_S_linesClash 34 = .ok (.iload_n 2, 1) := by decide +kernel
theorem d_S_linesClash_35 : decode b_S_linesClash 35 = .ok (.invokevirtual 87, 3) := by decide +kernel
theorem d_S_linesClash_38 : decode b_S_linesClash 38 = .ok (.ifCond .ne 56, 3) := by decide +kernel
theorem d_S_linesClash_41 : decode b_S_linesClash 41 = .ok (.aload_n 0, 1) := by decide +kernel
theorem d_S_linesClash_42 : decode b_S_linesClash 42 = .ok (.iload_n 1, 1) := by decide +kernel
theorem d_S_linesClash_43 : decode b_S_linesClash 43 = .ok (.aload_n 0, 1) := by decide +kernel
theorem d_S_linesClash_44 : decode b_S_linesClash 44 = .ok (.iload_n 2, 1) := by decide +kernel
theorem d_S_linesClash_45 : decode b_S_linesClash 45 = .ok (.invokevirtual 62, 3) := by decide +kernel
theorem d_S_linesClash_48 : decode b_S_linesClash 48 = .ok (.invokevirtual 87, 3) := by decide +kernel
theorem d_S_linesClash_51 : decode b_S_linesClash 51 = .ok (.ifCond .ne 43, 3) := by decide +kernel
theorem d_S_linesClash_54 : decode b_S_linesClash 54 = .ok (.aload_n 0, 1) := by decide +kernel
theorem d_S_linesClash_55 : decode b_S_linesClash 55 = .ok (.iload_n 2, 1) := by decide +kernel
theorem d_S_linesClash_56 : decode b_S_linesClash 56 = .ok (.iload_n 1, 1) := by decide +kernel
theorem d_S_linesClash_57 : decode b_S_linesClash 57 = .ok (.invokevirtual 87, 3) := by decide +kernel
theorem d_S_linesClash_60 : decode b_S_linesClash 60 = .ok (.ifCond .ne 34, 3) := by decide +kernel
theorem d_S_linesClash_63 : decode b_S_linesClash 63 = .ok (.aload_n 0, 1) := by decide +kernel
theorem d_S_linesClash_64 : decode b_S_linesClash 64 = .ok (.iload_n 2, 1) := by decide +kernel
theorem d_S_linesClash_65 : decode b_S_linesClash 65 = .ok (.aload_n 0, 1) := by decide +kernel
theorem d_S_linesClash_66 : decode b_S_linesClash 66 = .ok (.iload_n 1, 1) := by decide +kernel
theorem d_S_linesClash_67 : decode b_S_linesClash 67 = .ok (.invokevirtual 62, 3) := by decide +kernel
theorem d_S_linesClash_70 : decode b_S_linesClash 70 = .ok (.invokevirtual 87, 3) := by decide +kernel
theorem d_S_linesClash_73 : decode b_S_linesClash 73 = .ok (.ifCond .ne 21, 3) := by decide +kernel
theorem d_S_linesClash_76 : decode b_S_linesClash 76 = .ok (.aload_n 0, 1) := by decide +kernel
theorem d_S_linesClash_77 : decode b_S_linesClash 77 = .ok (.iload_n 1, 1) := by decide +kernel
theorem d_S_linesClash_78 : decode b_S_linesClash 78 = .ok (.iload_n 2, 1) := by decide +kernel
theorem d_S_linesClash_79 : decode b_S_linesClash 79 = .ok (.invokevirtual 90, 3) := by decide +kernel
theorem d_S_linesClash_82 : decode b_S_linesClash 82 = .ok (.ifCond .eq 16, 3) := by decide +kernel
theorem d_S_linesClash_85 : decode b_S_linesClash 85 = .ok (.aload_n 0, 1) := by decide +kernel
theorem d_S_linesClash_86 : decode b_S_linesClash 86 = .ok (.iload_n 2, 1) := by decide +kernel
theorem d_S_linesClash_87 : decode b_S_linesClash 87 = .ok (.iload_n 1, 1) := by decide +kernel
theorem d_S_linesClash_88 : decode b_S_linesClash 88 = .ok (.invokevirtual 90, 3) := by decide +kernel
theorem d_S_linesClash_91 : decode b_S_linesClash 91 = .ok (.ifCond .eq 7, 3) := by decide +kernel
theorem d_S_linesClash_94 : decode b_S_linesClash 94 = .ok (.iconst 1, 1) := by decide +kernel
theorem d_S_linesClash_95 : decode b_S_linesClash 95 = .ok (.goto 4, 3) := by decide +kernel
theorem d_S_linesClash_98 : decode b_S_linesClash 98 = .ok (.iconst 0, 1) := by decide +kernel
theorem d_S_linesClash_99 : decode b_S_linesClash 99 = .ok (.ireturn, 1) := by decide +kernel
theorem d_S_foldsBack_0 : decode b_S_foldsBack 0 = .ok (.aload_n 0, 1) := by decide +kernel
theorem d_S_foldsBack_1 : decode b_S_foldsBack 1 = .ok (.iload_n 1, 1) := by decide +kernel
theorem d_S_foldsBack_2 : decode b_S_foldsBack 2 = .ok (.aload_n 0, 1) := by decide +kernel
theorem d_S_foldsBack_3 : decode b_S_foldsBack 3 = .ok (.iload_n 2, 1) := by decide +kernel
theorem d_S_foldsBack_4 : decode b_S_foldsBack 4 = .ok (.invokevirtual 62, 3) := by decide +kernel
theorem d_S_foldsBack_7 : decode b_S_foldsBack 7 = .ok (.invokevirtual 87, 3) := by decide +kernel
theorem d_S_foldsBack_10 : decode b_S_foldsBack 10 = .ok (.ifCond .ne 12, 3) := by decide +kernel
theorem d_S_foldsBack_13 : decode b_S_foldsBack 13 = .ok (.aload_n 0, 1) := by decide +kernel
theorem d_S_foldsBack_14 : decode b_S_foldsBack 14 = .ok (.iload_n 2, 1) := by decide +kernel
theorem d_S_foldsBack_15 : decode b_S_foldsBack 15 = .ok (.iload_n 1, 1) := by decide +kernel
theorem d_S_foldsBack_16 : decode b_S_foldsBack 16 = .ok (.invokevirtual 87, 3) := by decide +kernel
theorem d_S_foldsBack_19 : decode b_S_foldsBack 19 = .ok (.ifCond .eq 7, 3) := by decide +kernel
theorem d_S_foldsBack_22 : decode b_S_foldsBack 22 = .ok (.iconst 1, 1) := by decide +kernel
theorem d_S_foldsBack_23 : decode b_S_foldsBack 23 = .ok (.goto 4, 3) := by decide +kernel
theorem d_S_foldsBack_26 : decode b_S_foldsBack 26 = .ok (.iconst 0, 1) := by decide +kernel
theorem d_S_foldsBack_27 : decode b_S_foldsBack 27 = .ok (.ireturn, 1) := by decide +kernel
theorem d_S_hasCorner_0 : decode b_S_hasCorner 0 = .ok (.aload_n 0, 1) := by decide +kernel
theorem d_S_hasCorner_1 : decode b_S_hasCorner 1 = .ok (.iload_n 1, 1) := by decide +kernel
theorem d_S_hasCorner_2 : decode b_S_hasCorner 2 = .ok (.aload_n 0, 1) := by decide +kernel
theorem d_S_hasCorner_3 : decode b_S_hasCorner 3 = .ok (.getfield 24, 3) := by decide +kernel
theorem d_S_hasCorner_6 : decode b_S_hasCorner 6 = .ok (.iload_n 2, 1) := by decide +kernel
theorem d_S_hasCorner_7 : decode b_S_hasCorner 7 = .ok (.iaload, 1) := by decide +kernel
theorem d_S_hasCorner_8 : decode b_S_hasCorner 8 = .ok (.aload_n 0, 1) := by decide +kernel
theorem d_S_hasCorner_9 : decode b_S_hasCorner 9 = .ok (.getfield 28, 3) := by decide +kernel
theorem d_S_hasCorner_12 : decode b_S_hasCorner 12 = .ok (.iload_n 2, 1) := by decide +kernel
theorem d_S_hasCorner_13 : decode b_S_hasCorner 13 = .ok (.iaload, 1) := by decide +kernel
theorem d_S_hasCorner_14 : decode b_S_hasCorner 14 = .ok (.invokevirtual 52, 3) := by decide +kernel
theorem d_S_hasCorner_17 : decode b_S_hasCorner 17 = .ok (.ireturn, 1) := by decide +kernel
theorem d_S_parts_0 : decode b_S_parts 0 = .ok (.aload_n 0, 1) := by decide +kernel
theorem d_S_parts_1 : decode b_S_parts 1 = .ok (.iload_n 1, 1) := by decide +kernel
theorem d_S_parts_2 : decode b_S_parts 2 = .ok (.aload_n 0, 1) := by decide +kernel
theorem d_S_parts_3 : decode b_S_parts 3 = .ok (.getfield 24, 3) := by decide +kernel
theorem d_S_parts_6 : decode b_S_parts 6 = .ok (.iload_n 2, 1) := by decide +kernel
theorem d_S_parts_7 : decode b_S_parts 7 = .ok (.iaload, 1) := by decide +kernel
theorem d_S_parts_8 : decode b_S_parts 8 = .ok (.aload_n 0, 1) := by decide +kernel
theorem d_S_parts_9 : decode b_S_parts 9 = .ok (.getfield 28, 3) := by decide +kernel
theorem d_S_parts_12 : decode b_S_parts 12 = .ok (.iload_n 2, 1) := by decide +kernel
theorem d_S_parts_13 : decode b_S_parts 13 = .ok (.iaload, 1) := by decide +kernel
theorem d_S_parts_14 : decode b_S_parts 14 = .ok (.invokevirtual 93, 3) := by decide +kernel
theorem d_S_parts_17 : decode b_S_parts 17 = .ok (.lstore_n 3, 1) := by decide +kernel
theorem d_S_parts_18 : decode b_S_parts 18 = .ok (.aload_n 0, 1) := by decide +kernel
theorem d_S_parts_19 : decode b_S_parts 19 = .ok (.iload_n 1, 1) := by decide +kernel
theorem d_S_parts_20 : decode b_S_parts 20 = .ok (.aload_n 0, 1) := by decide +kernel
theorem d_S_parts_21 : decode b_S_parts 21 = .ok (.getfield 24, 3) := by decide +kernel
theorem d_S_parts_24 : decode b_S_parts 24 = .ok (.aload_n 0, 1) := by decide +kernel
theorem d_S_parts_25 : decode b_S_parts 25 = .ok (.iload_n 2, 1) := by decide +kernel
theorem d_S_parts_26 : decode b_S_parts 26 = .ok (.invokevirtual 62, 3) := by decide +kernel
theorem d_S_parts_29 : decode b_S_parts 29 = .ok (.iaload, 1) := by decide +kernel
theorem d_S_parts_30 : decode b_S_parts 30 = .ok (.aload_n 0, 1) := by decide +kernel
theorem d_S_parts_31 : decode b_S_parts 31 = .ok (.getfield 28, 3) := by decide +kernel
theorem d_S_parts_34 : decode b_S_parts 34 = .ok (.aload_n 0, 1) := by decide +kernel
theorem d_S_parts_35 : decode b_S_parts 35 = .ok (.iload_n 2, 1) := by decide +kernel
theorem d_S_parts_36 : decode b_S_parts 36 = .ok (.invokevirtual 62, 3) := by decide +kernel
theorem d_S_parts_39 : decode b_S_parts 39 = .ok (.iaload, 1) := by decide +kernel
theorem d_S_parts_40 : decode b_S_parts 40 = .ok (.invokevirtual 93, 3) := by decide +kernel
theorem d_S_parts_43 : decode b_S_parts 43 = .ok (.lstore 5, 2) := by decide +kernel
theorem d_S_parts_45 : decode b_S_parts 45 = .ok (.lload_n 3, 1) := by decide +kernel
theorem d_S_parts_46 : decode b_S_parts 46 = .ok (.lconst 0, 1) := by decide +kernel
theorem d_S_parts_47 : decode b_S_parts 47 = .ok (.lcmp, 1) := by decide +kernel
theorem d_S_parts_48 : decode b_S_parts 48 = .ok (.ifCond .ge 10, 3) := by decide +kernel
theorem d_S_parts_51 : decode b_S_parts 51 = .ok (.lload 5, 2) := by decide +kernel
theorem d_S_parts_53 : decode b_S_parts 53 = .ok (.lconst 0, 1) := by decide +kernel
theorem d_S_parts_54 : decode b_S_parts 54 = .ok (.lcmp, 1) := by decide +kernel
theorem d_S_parts_55 : decode b_S_parts 55 = .ok (.ifCond .gt 16, 3) := by decide +kernel
theorem d_S_parts_58 : decode b_S_parts 58 = .ok (.lload_n 3, 1) := by decide +kernel
theorem d_S_parts_59 : decode b_S_parts 59 = .ok (.lconst 0, 1) := by decide +kernel
theorem d_S_parts_60 : decode b_S_parts 60 = .ok (.lcmp, 1) := by decide +kernel
theorem d_S_parts_61 : decode b_S_parts 61 = .ok (.ifCond .le 14, 3) := by decide +kernel
theorem d_S_parts_64 : decode b_S_parts 64 = .ok (.lload 5, 2) := by decide +kernel
theorem d_S_parts_66 : decode b_S_parts 66 = .ok (.lconst 0, 1) := by decide +kernel
theorem d_S_parts_67 : decode b_S_parts 67 = .ok (.lcmp, 1) := by decide +kernel
theorem d_S_parts_68 : decode b_S_parts 68 = .ok (.ifCond .ge 7, 3) := by decide +kernel
theorem d_S_parts_71 : decode b_S_parts 71 = .ok (.iconst 1, 1) := by decide +kernel
theorem d_S_parts_72 : decode b_S_parts 72 = .ok (.goto 4, 3) := by decide +kernel
theorem d_S_parts_75 : decode b_S_parts 75 = .ok (.iconst 0, 1) := by decide +kernel
theorem d_S_parts_76 : decode b_S_parts 76 = .ok (.ireturn, 1) := by decide +kernel
theorem d_S_isOnLine_0 : decode b_S_isOnLine 0 = .ok (.aload_n 0, 1) := by decide +kernel
theorem d_S_isOnLine_1 : decode b_S_isOnLine 1 = .ok (.iload_n 1, 1) := by decide +kernel
theorem d_S_isOnLine_2 : decode b_S_isOnLine 2 = .ok (.invokevirtual 62, 3) := by decide +kernel
theorem d_S_isOnLine_5 : decode b_S_isOnLine 5 = .ok (.istore 4, 2) := by decide +kernel
theorem d_S_isOnLine_7 : decode b_S_isOnLine 7 = .ok (.aload_n 0, 1) := by decide +kernel
theorem d_S_isOnLine_8 : decode b_S_isOnLine 8 = .ok (.getfield 24, 3) := by decide +kernel
theorem d_S_isOnLine_11 : decode b_S_isOnLine 11 = .ok (.iload_n 1, 1) := by decide +kernel
theorem d_S_isOnLine_12 : decode b_S_isOnLine 12 = .ok (.iaload, 1) := by decide +kernel
theorem d_S_isOnLine_13 : decode b_S_isOnLine 13 = .ok (.aload_n 0, 1) := by decide +kernel
theorem d_S_isOnLine_14 : decode b_S_isOnLine 14 = .ok (.getfield 24, 3) := by decide +kernel
theorem d_S_isOnLine_17 : decode b_S_isOnLine 17 = .ok (.iload 4, 2) := by decide +kernel
theorem d_S_isOnLine_19 : decode b_S_isOnLine 19 = .ok (.iaload, 1) := by decide +kernel
theorem d_S_isOnLine_20 : decode b_S_isOnLine 20 = .ok (.iload_n 2, 1) := by decide +kernel
theorem d_S_isOnLine_21 : decode b_S_isOnLine 21 = .ok (.invokestatic 97, 3) := by decide +kernel
theorem d_S_isOnLine_24 : decode b_S_isOnLine 24 = .ok (.ifCond .eq 39, 3) := by decide +kernel
theorem d_S_isOnLine_27 : decode b_S_isOnLine 27 = .ok (.aload_n 0, 1) := by decide +kernel
theorem d_S_isOnLine_28 : decode b_S_isOnLine 28 = .ok (.getfield 28, 3) := by decide +kernel
theorem d_S_isOnLine_31 : decode b_S_isOnLine 31 = .ok (.iload_n 1, 1) := by decide +kernel
theorem d_S_isOnLine_32 : decode b_S_isOnLine 32 = .ok (.iaload, 1) := by decide +kernel
theorem d_S_isOnLine_33 : decode b_S_isOnLine 33 = .ok (.aload_n 0, 1) := by decide +kernel
theorem d_S_isOnLine_34 : decode b_S_isOnLine 34 = .ok (.getfield 28, 3) := by decide +kernel
theorem d_S_isOnLine_37 : decode b_S_isOnLine 37 = .ok (.iload 4, 2) := by decide +kernel
theorem d_S_isOnLine_39 : decode b_S_isOnLine 39 = .ok (.iaload, 1) := by decide +kernel
theorem d_S_isOnLine_40 : decode b_S_isOnLine 40 = .ok (.iload_n 3, 1) := by decide +kernel
theorem d_S_isOnLine_41 : decode b_S_isOnLine 41 = .ok (.invokestatic 97, 3) := by decide +kernel
theorem d_S_isOnLine_44 : decode b_S_isOnLine 44 = .ok (.ifCond .eq 19, 3) := by decide +kernel
theorem d_S_isOnLine_47 : decode b_S_isOnLine 47 = .ok (.aload_n 0, 1) := by decide +kernel
theorem d_S_isOnLine_48 : decode b_S_isOnLine 48 = .ok (.iload_n 1, 1) := by decide +kernel
theorem d_S_isOnLine_49 : decode b_S_isOnLine 49 = .ok (.iload_n 2, 1) := by decide +kernel
theorem d_S_isOnLine_50 : decode b_S_isOnLine 50 = .ok (.iload_n 3, 1) := by decide +kernel
theorem d_S_isOnLine_51 : decode b_S_isOnLine 51 = .ok (.invokevirtual 93, 3) := by decide +kernel
theorem d_S_isOnLine_54 : decode b_S_isOnLine 54 = .ok (.lconst 0, 1) := by decide +kernel
theorem d_S_isOnLine_55 : decode b_S_isOnLine 55 = .ok (.lcmp, 1) := by decide +kernel
theorem d_S_isOnLine_56 : decode b_S_isOnLine 56 = .ok (.ifCond .ne 7, 3) := by decide +kernel
theorem d_S_isOnLine_59 : decode b_S_isOnLine 59 = .ok (.iconst 1, 1) := by decide +kernel
theorem d_S_isOnLine_60 : decode b_S_isOnLine 60 = .ok (.goto 4, 3) := by decide +kernel
theorem d_S_isOnLine_63 : decode b_S_isOnLine 63 = .ok (.iconst 0, 1) := by decide +kernel
theorem d_S_isOnLine_64 : decode b_S_isOnLine 64 = .ok (.ireturn, 1) := by decide +kernel
theorem d_S_isLineRightOf_0 : decode b_S_isLineRightOf 0 = .ok (.aload_n 0, 1) := by decide +kernel
theorem d_S_isLineRightOf_1 : decode b_S_isLineRightOf 1 = .ok (.iload_n 1, 1) := by decide +kernel
theorem d_S_isLineRightOf_2 : decode b_S_isLineRightOf 2 = .ok (.invokevirtual 62, 3) := by decide +kernel
theorem d_S_isLineRightOf_5 : decode b_S_isLineRightOf 5 = .ok (.istore 4, 2) := by decide +kernel
theorem d_S_isLineRightOf_7 : decode b_S_isLineRightOf 7 = .ok (.aload_n 0, 1) := by decide +kernel
theorem d_S_isLineRightOf_8 : decode b_S_isLineRightOf 8 = .ok (.getfield 28, 3) := by decide +kernel
theorem d_S_isLineRightOf_11 : decode b_S_isLineRightOf 11 = .ok (.iload_n 1, 1) := by decide +kernel
theorem d_S_isLineRightOf_12 : decode b_S_isLineRightOf 12 = .ok (.iaload, 1) := by decide +kernel
theorem d_S_isLineRightOf_13 : decode b_S_isLineRightOf 13 = .ok (.iload_n 3, 1) := by decide +kernel
theorem d_S_isLineRightOf_14 : decode b_S_isLineRightOf 14 = .ok (.if_icmp .gt 32, 3) := by decide +kernel
theorem d_S_isLineRightOf_17 : decode b_S_isLineRightOf 17 = .ok (.iload_n 3, 1) := by decide +kernel
theorem d_S_isLineRightOf_18 : decode b_S_isLineRightOf 18 = .ok (.aload_n 0, 1) := by decide +kernel
theorem d_S_isLineRightOf_19 : decode b_S_isLineRightOf 19 = .ok (.getfield 28, 3) := by decide +kernel
theorem d_S_isLineRightOf_22 : decode b_S_isLineRightOf 22 = .ok (.iload 4, 2) := by decide +kernel
theorem d_S_isLineRightOf_24 : decode b_S_isLineRightOf 24 = .ok (.iaload, 1) := by decide +kernel
theorem d_S_isLineRightOf_25 : decode b_S_isLineRightOf 25 = .ok (.if_icmp .ge 21, 3) := by decide +kernel
theorem d_S_isLineRightOf_28 : decode b_S_isLineRightOf 28 = .ok (.aload_n 0, 1) := by decide +kernel
theorem d_S_isLineRightOf_29 : decode b_S_isLineRightOf 29 = .ok (.iload_n 1, 1) := by decide +kernel
theorem d_S_isLineRightOf_30 : decode b_S_isLineRightOf 30 = .ok (.iload_n 2, 1) := by decide +kernel
theorem d_S_isLineRightOf_31 : decode b_S_isLineRightOf 31 = .ok (.iload_n 3, 1) := by decide +kernel
theorem d_S_isLineRightOf_32 : decode b_S_isLineRightOf 32 = .ok (.invokevirtual 93, 3) := by decide +kernel
theorem d_S_isLineRightOf_35 : decode b_S_isLineRightOf 35 = .ok (.lconst 0, 1) := by decide +kernel
theorem d_S_isLineRightOf_36 : decode b_S_isLineRightOf 36 = .ok (.lcmp, 1) := by decide +kernel
theorem d_S_isLineRightOf_37 : decode b_S_isLineRightOf 37 = .ok (.ifCond .le 7, 3) := by decide +kernel
theorem d_S_isLineRightOf_40 : decode b_S_isLineRightOf 40 = .ok (.iconst 1, 1) := by decide +kernel
theorem d_S_isLineRightOf_41 : decode b_S_isLineRightOf 41 = .ok (.goto 4, 3) := by decide +kernel
theorem d_S_isLineRightOf_44 : decode b_S_isLineRightOf 44 = .ok (.iconst 0, 1) := by decide +kernel
theorem d_S_isLineRightOf_45 : decode b_S_isLineRightOf 45 = .ok (.ireturn, 1) := by decide +kernel
theorem d_S_isLineRightOf_46 : decode b_S_isLineRightOf 46 = .ok (.aload_n 0, 1) := by decide +kernel
theorem d_S_isLineRightOf_47 : decode b_S_isLineRightOf 47 = .ok (.getfield 28, 3) := by decide +kernel
theorem d_S_isLineRightOf_50 : decode b_S_isLineRightOf 50 = .ok (.iload 4, 2) := by decide +kernel
theorem d_S_isLineRightOf_52 : decode b_S_isLineRightOf 52 = .ok (.iaload, 1) := by decide +kernel
theorem d_S_isLineRightOf_53 : decode b_S_isLineRightOf 53 = .ok (.iload_n 3, 1) := by decide +kernel
theorem d_S_isLineRightOf_54 : decode b_S_isLineRightOf 54 = .ok (.if_icmp .gt 29, 3) := by decide +kernel
theorem d_S_isLineRightOf_57 : decode b_S_isLineRightOf 57 = .ok (.iload_n 3, 1) := by decide +kernel
theorem d_S_isLineRightOf_58 : decode b_S_isLineRightOf 58 = .ok (.aload_n 0, 1) := by decide +kernel
theorem d_S_isLineRightOf_59 : decode b_S_isLineRightOf 59 = .ok (.getfield 28, 3) := by decide +kernel
theorem d_S_isLineRightOf_62 : decode b_S_isLineRightOf 62 = .ok (.iload_n 1, 1) := by decide +kernel
theorem d_S_isLineRightOf_63 : decode b_S_isLineRightOf 63 = .ok (.iaload, 1) := by decide +kernel
theorem d_S_isLineRightOf_64 : decode b_S_isLineRightOf 64 = .ok (.if_icmp .ge 19, 3) := by decide +kernel
theorem d_S_isLineRightOf_67 : decode b_S_isLineRightOf 67 = .ok (.aload_n 0, 1) := by decide +kernel
theorem d_S_isLineRightOf_68 : decode b_S_isLineRightOf 68 = .ok (.iload_n 1, 1) := by decide +kernel
theorem d_S_isLineRightOf_69 : decode b_S_isLineRightOf 69 = .ok (.iload_n 2, 1) := by decide +kernel
theorem d_S_isLineRightOf_70 : decode b_S_isLineRightOf 70 = .ok (.iload_n 3, 1) := by decide +kernel
theorem d_S_isLineRightOf_71 : decode b_S_isLineRightOf 71 = .ok (.invokevirtual 93, 3) := by decide +kernel
theorem d_S_isLineRightOf_74 : decode b_S_isLineRightOf 74 = .ok (.lconst 0, 1) := by decide +kernel
theorem d_S_isLineRightOf_75 : decode b_S_isLineRightOf 75 = .ok (.lcmp, 1) := by decide +kernel
theorem d_S_isLineRightOf_76 : decode b_S_isLineRightOf 76 = .ok (.ifCond .ge 7, 3) := by decide +kernel
theorem d_S_isLineRightOf_79 : decode b_S_isLineRightOf 79 = .ok (.iconst 1, 1) := by decide +kernel
theorem d_S_isLineRightOf_80 : decode b_S_isLineRightOf 80 = .ok (.goto 4, 3) := by decide +kernel
theorem d_S_isLineRightOf_83 : decode b_S_isLineRightOf 83 = .ok (.iconst 0, 1) := by decide +kernel
theorem d_S_isLineRightOf_84 : decode b_S_isLineRightOf 84 = .ok (.ireturn, 1) := by decide +kernel
theorem d_S_side_0 : decode b_S_side 0 = .ok (.aload_n 0, 1) := by decide +kernel
theorem d_S_side_1 : decode b_S_side 1 = .ok (.iload_n 1, 1) := by decide +kernel
theorem d_S_side_2 : decode b_S_side 2 = .ok (.invokevirtual 62, 3) := by decide +kernel
theorem d_S_side_5 : decode b_S_side 5 = .ok (.istore 4, 2) := by decide +kernel
theorem d_S_side_7 : decode b_S_side 7 = .ok (.aload_n 0, 1) := by decide +kernel
theorem d_S_side_8 : decode b_S_side 8 = .ok (.getfield 24, 3) := by decide +kernel
theorem d_S_side_11 : decode b_S_side 11 = .ok (.iload_n 1, 1) := by decide +kernel
theorem d_S_side_12 : decode b_S_side 12 = .ok (.iaload, 1) := by decide +kernel
theorem d_S_side_13 : decode b_S_side 13 = .ok (.aload_n 0, 1) := by decide +kernel
theorem d_S_side_14 : decode b_S_side 14 = .ok (.getfield 28, 3) := by decide +kernel
theorem d_S_side_17 : decode b_S_side 17 = .ok (.iload_n 1, 1) := by decide +kernel
theorem d_S_side_18 : decode b_S_side 18 = .ok (.iaload, 1) := by decide +kernel
theorem d_S_side_19 : decode b_S_side 19 = .ok (.aload_n 0, 1) := by decide +kernel
theorem d_S_side_20 : decode b_S_side 20 = .ok (.getfield 24, 3) := by decide +kernel
theorem d_S_side_23 : decode b_S_side 23 = .ok (.iload 4, 2) := by decide +kernel
theorem d_S_side_25 : decode b_S_side 25 = .ok (.iaload, 1) := by decide +kernel
theorem d_S_side_26 : decode b_S_side 26 = .ok (.aload_n 0, 1) := by decide +kernel
theorem d_S_side_27 : decode b_S_side 27 = .ok (.getfield 28, 3) := by decide +kernel
theorem d_S_side_30 : decode b_S_side 30 = .ok (.iload 4, 2) := by decide +kernel
theorem d_S_side_32 : decode b_S_side 32 = .ok (.iaload, 1) := by decide +kernel
theorem d_S_side_33 : decode b_S_side 33 = .ok (.iload_n 2, 1) := by decide +kernel
theorem d_S_side_34 : decode b_S_side 34 = .ok (.iload_n 3, 1) := by decide +kernel
theorem d_S_side_35 : decode b_S_side 35 = .ok (.invokestatic 66, 3) := by decide +kernel
theorem d_S_side_38 : decode b_S_side 38 = .ok (.lreturn, 1) := by decide +kernel
