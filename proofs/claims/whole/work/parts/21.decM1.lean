theorem d_M_thrown_0 : decode b_M_thrown 0 = .ok (.aload_n 0, 1) := by decide +kernel
theorem d_M_thrown_1 : decode b_M_thrown 1 = .ok (.getfield 61, 3) := by decide +kernel
theorem d_M_thrown_4 : decode b_M_thrown 4 = .ok (.ireturn, 1) := by decide +kernel
theorem d_M_goes_0 : decode b_M_goes 0 = .ok (.aload_n 0, 1) := by decide +kernel
theorem d_M_goes_1 : decode b_M_goes 1 = .ok (.iload_n 1, 1) := by decide +kernel
theorem d_M_goes_2 : decode b_M_goes 2 = .ok (.ifCond .ne 7, 3) := by decide +kernel
theorem d_M_goes_5 : decode b_M_goes 5 = .ok (.iconst 1, 1) := by decide +kernel
theorem d_M_goes_6 : decode b_M_goes 6 = .ok (.goto 20, 3) := by decide +kernel
theorem d_M_goes_9 : decode b_M_goes 9 = .ok (.iload_n 2, 1) := by decide +kernel
theorem d_M_goes_10 : decode b_M_goes 10 = .ok (.ifCond .ne 7, 3) := by decide +kernel
theorem d_M_goes_13 : decode b_M_goes 13 = .ok (.iconst 2, 1) := by decide +kernel
theorem d_M_goes_14 : decode b_M_goes 14 = .ok (.goto 12, 3) := by decide +kernel
theorem d_M_goes_17 : decode b_M_goes 17 = .ok (.iload_n 3, 1) := by decide +kernel
theorem d_M_goes_18 : decode b_M_goes 18 = .ok (.ifCond .ne 7, 3) := by decide +kernel
theorem d_M_goes_21 : decode b_M_goes 21 = .ok (.iconst 3, 1) := by decide +kernel
theorem d_M_goes_22 : decode b_M_goes 22 = .ok (.goto 4, 3) := by decide +kernel
theorem d_M_goes_25 : decode b_M_goes 25 = .ok (.iconst 0, 1) := by decide +kernel
theorem d_M_goes_26 : decode b_M_goes 26 = .ok (.putfield 61, 3) := by decide +kernel
theorem d_M_goes_29 : decode b_M_goes 29 = .ok (.aload_n 0, 1) := by decide +kernel
theorem d_M_goes_30 : decode b_M_goes 30 = .ok (.getfield 61, 3) := by decide +kernel
theorem d_M_goes_33 : decode b_M_goes 33 = .ok (.ifCond .ne 7, 3) := by decide +kernel
theorem d_M_goes_36 : decode b_M_goes 36 = .ok (.iconst 1, 1) := by decide +kernel
theorem d_M_goes_37 : decode b_M_goes 37 = .ok (.goto 4, 3) := by decide +kernel
theorem d_M_goes_40 : decode b_M_goes 40 = .ok (.iconst 0, 1) := by decide +kernel
theorem d_M_goes_41 : decode b_M_goes 41 = .ok (.ireturn, 1) := by decide +kernel
theorem d_M_isPoint_0 : decode b_M_isPoint 0 = .ok (.iload_n 0, 1) := by decide +kernel
theorem d_M_isPoint_1 : decode b_M_isPoint 1 = .ok (.sipush (-10000), 3) := by decide +kernel
theorem d_M_isPoint_4 : decode b_M_isPoint 4 = .ok (.if_icmp .lt 28, 3) := by decide +kernel
theorem d_M_isPoint_7 : decode b_M_isPoint 7 = .ok (.iload_n 0, 1) := by decide +kernel
theorem d_M_isPoint_8 : decode b_M_isPoint 8 = .ok (.sipush 10000, 3) := by decide +kernel
theorem d_M_isPoint_11 : decode b_M_isPoint 11 = .ok (.if_icmp .gt 21, 3) := by decide +kernel
theorem d_M_isPoint_14 : decode b_M_isPoint 14 = .ok (.iload_n 1, 1) := by decide +kernel
theorem d_M_isPoint_15 : decode b_M_isPoint 15 = .ok (.sipush (-10000), 3) := by decide +kernel
theorem d_M_isPoint_18 : decode b_M_isPoint 18 = .ok (.if_icmp .lt 14, 3) := by decide +kernel
theorem d_M_isPoint_21 : decode b_M_isPoint 21 = .ok (.iload_n 1, 1) := by decide +kernel
theorem d_M_isPoint_22 : decode b_M_isPoint 22 = .ok (.sipush 10000, 3) := by decide +kernel
theorem d_M_isPoint_25 : decode b_M_isPoint 25 = .ok (.if_icmp .gt 7, 3) := by decide +kernel
theorem d_M_isPoint_28 : decode b_M_isPoint 28 = .ok (.iconst 1, 1) := by decide +kernel
theorem d_M_isPoint_29 : decode b_M_isPoint 29 = .ok (.goto 4, 3) := by decide +kernel
theorem d_M_isPoint_32 : decode b_M_isPoint 32 = .ok (.iconst 0, 1) := by decide +kernel
theorem d_M_isPoint_33 : decode b_M_isPoint 33 = .ok (.ireturn, 1) := by decide +kernel
theorem d_M_isDay_0 : decode b_M_isDay 0 = .ok (.iload_n 0, 1) := by decide +kernel
theorem d_M_isDay_1 : decode b_M_isDay 1 = .ok (.ifCond .lt 13, 3) := by decide +kernel
theorem d_M_isDay_4 : decode b_M_isDay 4 = .ok (.iload_n 0, 1) := by decide +kernel
theorem d_M_isDay_5 : decode b_M_isDay 5 = .ok (.ldc 65, 2) := by decide +kernel
theorem d_M_isDay_7 : decode b_M_isDay 7 = .ok (.if_icmp .gt 7, 3) := by decide +kernel
theorem d_M_isDay_10 : decode b_M_isDay 10 = .ok (.iconst 1, 1) := by decide +kernel
theorem d_M_isDay_11 : decode b_M_isDay 11 = .ok (.goto 4, 3) := by decide +kernel
theorem d_M_isDay_14 : decode b_M_isDay 14 = .ok (.iconst 0, 1) := by decide +kernel
theorem d_M_isDay_15 : decode b_M_isDay 15 = .ok (.ireturn, 1) := by decide +kernel
theorem d_M_isPlace_0 : decode b_M_isPlace 0 = .ok (.iload_n 1, 1) := by decide +kernel
theorem d_M_isPlace_1 : decode b_M_isPlace 1 = .ok (.ifCond .lt 15, 3) := by decide +kernel
theorem d_M_isPlace_4 : decode b_M_isPlace 4 = .ok (.iload_n 1, 1) := by decide +kernel
theorem d_M_isPlace_5 : decode b_M_isPlace 5 = .ok (.aload_n 0, 1) := by decide +kernel
theorem d_M_isPlace_6 : decode b_M_isPlace 6 = .ok (.getfield 66, 3) := by decide +kernel
theorem d_M_isPlace_9 : decode b_M_isPlace 9 = .ok (.if_icmp .ge 7, 3) := by decide +kernel
theorem d_M_isPlace_12 : decode b_M_isPlace 12 = .ok (.iconst 1, 1) := by decide +kernel
theorem d_M_isPlace_13 : decode b_M_isPlace 13 = .ok (.goto 4, 3) := by decide +kernel
theorem d_M_isPlace_16 : decode b_M_isPlace 16 = .ok (.iconst 0, 1) := by decide +kernel
theorem d_M_isPlace_17 : decode b_M_isPlace 17 = .ok (.ireturn, 1) := by decide +kernel
theorem d_M_isShape_0 : decode b_M_isShape 0 = .ok (.iload_n 1, 1) := by decide +kernel
theorem d_M_isShape_1 : decode b_M_isShape 1 = .ok (.ifCond .lt 15, 3) := by decide +kernel
theorem d_M_isShape_4 : decode b_M_isShape 4 = .ok (.iload_n 1, 1) := by decide +kernel
theorem d_M_isShape_5 : decode b_M_isShape 5 = .ok (.aload_n 0, 1) := by decide +kernel
theorem d_M_isShape_6 : decode b_M_isShape 6 = .ok (.getfield 69, 3) := by decide +kernel
theorem d_M_isShape_9 : decode b_M_isShape 9 = .ok (.if_icmp .ge 7, 3) := by decide +kernel
theorem d_M_isShape_12 : decode b_M_isShape 12 = .ok (.iconst 1, 1) := by decide +kernel
theorem d_M_isShape_13 : decode b_M_isShape 13 = .ok (.goto 4, 3) := by decide +kernel
theorem d_M_isShape_16 : decode b_M_isShape 16 = .ok (.iconst 0, 1) := by decide +kernel
theorem d_M_isShape_17 : decode b_M_isShape 17 = .ok (.ireturn, 1) := by decide +kernel
theorem d_M_side_0 : decode b_M_side 0 = .ok (.iload_n 2, 1) := by decide +kernel
theorem d_M_side_1 : decode b_M_side 1 = .ok (.iload_n 0, 1) := by decide +kernel
theorem d_M_side_2 : decode b_M_side 2 = .ok (.isub, 1) := by decide +kernel
theorem d_M_side_3 : decode b_M_side 3 = .ok (.iload 5, 2) := by decide +kernel
theorem d_M_side_5 : decode b_M_side 5 = .ok (.iload_n 1, 1) := by decide +kernel
theorem d_M_side_6 : decode b_M_side 6 = .ok (.isub, 1) := by decide +kernel
theorem d_M_side_7 : decode b_M_side 7 = .ok (.imul, 1) := by decide +kernel
theorem d_M_side_8 : decode b_M_side 8 = .ok (.iload_n 3, 1) := by decide +kernel
theorem d_M_side_9 : decode b_M_side 9 = .ok (.iload_n 1, 1) := by decide +kernel
theorem d_M_side_10 : decode b_M_side 10 = .ok (.isub, 1) := by decide +kernel
theorem d_M_side_11 : decode b_M_side 11 = .ok (.iload 4, 2) := by decide +kernel
theorem d_M_side_13 : decode b_M_side 13 = .ok (.iload_n 0, 1) := by decide +kernel
theorem d_M_side_14 : decode b_M_side 14 = .ok (.isub, 1) := by decide +kernel
theorem d_M_side_15 : decode b_M_side 15 = .ok (.imul, 1) := by decide +kernel
theorem d_M_side_16 : decode b_M_side 16 = .ok (.isub, 1) := by decide +kernel
theorem d_M_side_17 : decode b_M_side 17 = .ok (.ireturn, 1) := by decide +kernel
theorem d_M_sign_0 : decode b_M_sign 0 = .ok (.iload_n 0, 1) := by decide +kernel
theorem d_M_sign_1 : decode b_M_sign 1 = .ok (.ifCond .le 7, 3) := by decide +kernel
theorem d_M_sign_4 : decode b_M_sign 4 = .ok (.iconst 1, 1) := by decide +kernel
theorem d_M_sign_5 : decode b_M_sign 5 = .ok (.goto 12, 3) := by decide +kernel
theorem d_M_sign_8 : decode b_M_sign 8 = .ok (.iload_n 0, 1) := by decide +kernel
theorem d_M_sign_9 : decode b_M_sign 9 = .ok (.ifCond .ge 7, 3) := by decide +kernel
theorem d_M_sign_12 : decode b_M_sign 12 = .ok (.iconst (-1), 1) := by decide +kernel
theorem d_M_sign_13 : decode b_M_sign 13 = .ok (.goto 4, 3) := by decide +kernel
theorem d_M_sign_16 : decode b_M_sign 16 = .ok (.iconst 0, 1) := by decide +kernel
theorem d_M_sign_17 : decode b_M_sign 17 = .ok (.ireturn, 1) := by decide +kernel
theorem d_M_between_0 : decode b_M_between 0 = .ok (.iload_n 0, 1) := by decide +kernel
theorem d_M_between_1 : decode b_M_between 1 = .ok (.iload_n 1, 1) := by decide +kernel
theorem d_M_between_2 : decode b_M_between 2 = .ok (.if_icmp .lt 8, 3) := by decide +kernel
theorem d_M_between_5 : decode b_M_between 5 = .ok (.iload_n 0, 1) := by decide +kernel
theorem d_M_between_6 : decode b_M_between 6 = .ok (.iload_n 2, 1) := by decide +kernel
theorem d_M_between_7 : decode b_M_between 7 = .ok (.if_icmp .le 13, 3) := by decide +kernel
theorem d_M_between_10 : decode b_M_between 10 = .ok (.iload_n 0, 1) := by decide +kernel
theorem d_M_between_11 : decode b_M_between 11 = .ok (.iload_n 2, 1) := by decide +kernel
theorem d_M_between_12 : decode b_M_between 12 = .ok (.if_icmp .lt 12, 3) := by decide +kernel
theorem d_M_between_15 : decode b_M_between 15 = .ok (.iload_n 0, 1) := by decide +kernel
theorem d_M_between_16 : decode b_M_between 16 = .ok (.iload_n 1, 1) := by decide +kernel
theorem d_M_between_17 : decode b_M_between 17 = .ok (.if_icmp .gt 7, 3) := by decide +kernel
theorem d_M_between_20 : decode b_M_between 20 = .ok (.iconst 1, 1) := by decide +kernel
theorem d_M_between_21 : decode b_M_between 21 = .ok (.goto 4, 3) := by decide +kernel
theorem d_M_between_24 : decode b_M_between 24 = .ok (.iconst 0, 1) := by decide +kernel
theorem d_M_between_25 : decode b_M_between 25 = .ok (.ireturn, 1) := by decide +kernel
theorem d_M_isOn_0 : decode b_M_isOn 0 = .ok (.aload_n 0, 1) := by decide +kernel
theorem d_M_isOn_1 : decode b_M_isOn 1 = .ok (.getfield 25, 3) := by decide +kernel
theorem d_M_isOn_4 : decode b_M_isOn 4 = .ok (.iload_n 1, 1) := by decide +kernel
theorem d_M_isOn_5 : decode b_M_isOn 5 = .ok (.iaload, 1) := by decide +kernel
theorem d_M_isOn_6 : decode b_M_isOn 6 = .ok (.aload_n 0, 1) := by decide +kernel
theorem d_M_isOn_7 : decode b_M_isOn 7 = .ok (.getfield 28, 3) := by decide +kernel
theorem d_M_isOn_10 : decode b_M_isOn 10 = .ok (.iload_n 1, 1) := by decide +kernel
theorem d_M_isOn_11 : decode b_M_isOn 11 = .ok (.iaload, 1) := by decide +kernel
theorem d_M_isOn_12 : decode b_M_isOn 12 = .ok (.aload_n 0, 1) := by decide +kernel
theorem d_M_isOn_13 : decode b_M_isOn 13 = .ok (.getfield 25, 3) := by decide +kernel
theorem d_M_isOn_16 : decode b_M_isOn 16 = .ok (.iload_n 2, 1) := by decide +kernel
theorem d_M_isOn_17 : decode b_M_isOn 17 = .ok (.iaload, 1) := by decide +kernel
theorem d_M_isOn_18 : decode b_M_isOn 18 = .ok (.aload_n 0, 1) := by decide +kernel
theorem d_M_isOn_19 : decode b_M_isOn 19 = .ok (.getfield 28, 3) := by decide +kernel
theorem d_M_isOn_22 : decode b_M_isOn 22 = .ok (.iload_n 2, 1) := by decide +kernel
theorem d_M_isOn_23 : decode b_M_isOn 23 = .ok (.iaload, 1) := by decide +kernel
theorem d_M_isOn_24 : decode b_M_isOn 24 = .ok (.iload_n 3, 1) := by decide +kernel
theorem d_M_isOn_25 : decode b_M_isOn 25 = .ok (.iload 4, 2) := by decide +kernel
theorem d_M_isOn_27 : decode b_M_isOn 27 = .ok (.invokestatic 90, 3) := by decide +kernel
theorem d_M_isOn_30 : decode b_M_isOn 30 = .ok (.ifCond .ne 46, 3) := by decide +kernel
theorem d_M_isOn_33 : decode b_M_isOn 33 = .ok (.iload_n 3, 1) := by decide +kernel
theorem d_M_isOn_34 : decode b_M_isOn 34 = .ok (.aload_n 0, 1) := by decide +kernel
theorem d_M_isOn_35 : decode b_M_isOn 35 = .ok (.getfield 25, 3) := by decide +kernel
theorem d_M_isOn_38 : decode b_M_isOn 38 = .ok (.iload_n 1, 1) := by decide +kernel
theorem d_M_isOn_39 : decode b_M_isOn 39 = .ok (.iaload, 1) := by decide +kernel
theorem d_M_isOn_40 : decode b_M_isOn 40 = .ok (.aload_n 0, 1) := by decide +kernel
theorem d_M_isOn_41 : decode b_M_isOn 41 = .ok (.getfield 25, 3) := by decide +kernel
theorem d_M_isOn_44 : decode b_M_isOn 44 = .ok (.iload_n 2, 1) := by decide +kernel
theorem d_M_isOn_45 : decode b_M_isOn 45 = .ok (.iaload, 1) := by decide +kernel
theorem d_M_isOn_46 : decode b_M_isOn 46 = .ok (.invokestatic 94, 3) := by decide +kernel
theorem d_M_isOn_49 : decode b_M_isOn 49 = .ok (.ifCond .eq 27, 3) := by decide +kernel
theorem d_M_isOn_52 : decode b_M_isOn 52 = .ok (.iload 4, 2) := by decide +kernel
theorem d_M_isOn_54 : decode b_M_isOn 54 = .ok (.aload_n 0, 1) := by decide +kernel
theorem d_M_isOn_55 : decode b_M_isOn 55 = .ok (.getfield 28, 3) := by decide +kernel
theorem d_M_isOn_58 : decode b_M_isOn 58 = .ok (.iload_n 1, 1) := by decide +kernel
theorem d_M_isOn_59 : decode b_M_isOn 59 = .ok (.iaload, 1) := by decide +kernel
theorem d_M_isOn_60 : decode b_M_isOn 60 = .ok (.aload_n 0, 1) := by decide +kernel
theorem d_M_isOn_61 : decode b_M_isOn 61 = .ok (.getfield 28, 3) := by decide +kernel
theorem d_M_isOn_64 : decode b_M_isOn 64 = .ok (.iload_n 2, 1) := by decide +kernel
theorem d_M_isOn_65 : decode b_M_isOn 65 = .ok (.iaload, 1) := by decide +kernel
theorem d_M_isOn_66 : decode b_M_isOn 66 = .ok (.invokestatic 94, 3) := by decide +kernel
theorem d_M_isOn_69 : decode b_M_isOn 69 = .ok (.ifCond .eq 7, 3) := by decide +kernel
theorem d_M_isOn_72 : decode b_M_isOn 72 = .ok (.iconst 1, 1) := by decide +kernel
theorem d_M_isOn_73 : decode b_M_isOn 73 = .ok (.goto 4, 3) := by decide +kernel
theorem d_M_isOn_76 : decode b_M_isOn 76 = .ok (.iconst 0, 1) := by decide +kernel
theorem d_M_isOn_77 : decode b_M_isOn 77 = .ok (.ireturn, 1) := by decide +kernel
theorem d_M_meet_0 : decode b_M_meet 0 = .ok (.aload_n 0, 1) := by decide +kernel
theorem d_M_meet_1 : decode b_M_meet 1 = .ok (.iload_n 1, 1) := by decide +kernel
theorem d_M_meet_2 : decode b_M_meet 2 = .ok (.iload_n 2, 1) := by decide +kernel
theorem d_M_meet_3 : decode b_M_meet 3 = .ok (.aload_n 0, 1) := by decide +kernel
theorem d_M_meet_4 : decode b_M_meet 4 = .ok (.getfield 25, 3) := by decide +kernel
theorem d_M_meet_7 : decode b_M_meet 7 = .ok (.iload_n 3, 1) := by decide +kernel
theorem d_M_meet_8 : decode b_M_meet 8 = .ok (.iaload, 1) := by decide +kernel
theorem d_M_meet_9 : decode b_M_meet 9 = .ok (.aload_n 0, 1) := by decide +kernel
theorem d_M_meet_10 : decode b_M_meet 10 = .ok (.getfield 28, 3) := by decide +kernel
theorem d_M_meet_13 : decode b_M_meet 13 = .ok (.iload_n 3, 1) := by decide +kernel
theorem d_M_meet_14 : decode b_M_meet 14 = .ok (.iaload, 1) := by decide +kernel
theorem d_M_meet_15 : decode b_M_meet 15 = .ok (.invokevirtual 98, 3) := by decide +kernel
theorem d_M_meet_18 : decode b_M_meet 18 = .ok (.ifCond .ne 70, 3) := by decide +kernel
theorem d_M_meet_21 : decode b_M_meet 21 = .ok (.aload_n 0, 1) := by decide +kernel
theorem d_M_meet_22 : decode b_M_meet 22 = .ok (.iload_n 1, 1) := by decide +kernel
theorem d_M_meet_23 : decode b_M_meet 23 = .ok (.iload_n 2, 1) := by decide +kernel
theorem d_M_meet_24 : decode b_M_meet 24 = .ok (.aload_n 0, 1) := by decide +kernel
theorem d_M_meet_25 : decode b_M_meet 25 = .ok (.getfield 25, 3) := by decide +kernel
theorem d_M_meet_28 : decode b_M_meet 28 = .ok (.iload 4, 2) := by decide +kernel
theorem d_M_meet_30 : decode b_M_meet 30 = .ok (.iaload, 1) := by decide +kernel
theorem d_M_meet_31 : decode b_M_meet 31 = .ok (.aload_n 0, 1) := by decide +kernel
theorem d_M_meet_32 : decode b_M_meet 32 = .ok (.getfield 28, 3) := by decide +kernel
theorem d_M_meet_35 : decode b_M_meet 35 = .ok (.iload 4, 2) := by decide +kernel
theorem d_M_meet_37 : decode b_M_meet 37 = .ok (.iaload, 1) := by decide +kernel
theorem d_M_meet_38 : decode b_M_meet 38 = .ok (.invokevirtual 98, 3) := by decide +kernel
theorem d_M_meet_41 : decode b_M_meet 41 = .ok (.ifCond .ne 47, 3) := by decide +kernel
theorem d_M_meet_44 : decode b_M_meet 44 = .ok (.aload_n 0, 1) := by decide +kernel
theorem d_M_meet_45 : decode b_M_meet 45 = .ok (.iload_n 3, 1) := by decide +kernel
theorem d_M_meet_46 : decode b_M_meet 46 = .ok (.iload 4, 2) := by decide +kernel
theorem d_M_meet_48 : decode b_M_meet 48 = .ok (.aload_n 0, 1) := by decide +kernel
theorem d_M_meet_49 : decode b_M_meet 49 = .ok (.getfield 25, 3) := by decide +kernel
theorem d_M_meet_52 : decode b_M_meet 52 = .ok (.iload_n 1, 1) := by decide +kernel
theorem d_M_meet_53 : decode b_M_meet 53 = .ok (.iaload, 1) := by decide +kernel
theorem d_M_meet_54 : decode b_M_meet 54 = .ok (.aload_n 0, 1) := by decide +kernel
theorem d_M_meet_55 : decode b_M_meet 55 = .ok (.getfield 28, 3) := by decide +kernel
theorem d_M_meet_58 : decode b_M_meet 58 = .ok (.iload_n 1, 1) := by decide +kernel
theorem d_M_meet_59 : decode b_M_meet 59 = .ok (.iaload, 1) := by decide +kernel
theorem d_M_meet_60 : decode b_M_meet 60 = .ok (.invokevirtual 98, 3) := by decide +kernel
theorem d_M_meet_63 : decode b_M_meet 63 = .ok (.ifCond .ne 25, 3) := by decide +kernel
theorem d_M_meet_66 : decode b_M_meet 66 = .ok (.aload_n 0, 1) := by decide +kernel
theorem d_M_meet_67 : decode b_M_meet 67 = .ok (.iload_n 3, 1) := by decide +kernel
theorem d_M_meet_68 : decode b_M_meet 68 = .ok (.iload 4, 2) := by decide +kernel
theorem d_M_meet_70 : decode b_M_meet 70 = .ok (.aload_n 0, 1) := by decide +kernel
theorem d_M_meet_71 : decode b_M_meet 71 = .ok (.getfield 25, 3) := by decide +kernel
theorem d_M_meet_74 : decode b_M_meet 74 = .ok (.iload_n 2, 1) := by decide +kernel
theorem d_M_meet_75 : decode b_M_meet 75 = .ok (.iaload, 1) := by decide +kernel
theorem d_M_meet_76 : decode b_M_meet 76 = .ok (.aload_n 0, 1) := by decide +kernel
theorem d_M_meet_77 : decode b_M_meet 77 = .ok (.getfield 28, 3) := by decide +kernel
theorem d_M_meet_80 : decode b_M_meet 80 = .ok (.iload_n 2, 1) := by decide +kernel
theorem d_M_meet_81 : decode b_M_meet 81 = .ok (.iaload, 1) := by decide +kernel
theorem d_M_meet_82 : decode b_M_meet 82 = .ok (.invokevirtual 98, 3) := by decide +kernel
theorem d_M_meet_85 : decode b_M_meet 85 = .ok (.ifCond .eq 5, 3) := by decide +kernel
theorem d_M_meet_88 : decode b_M_meet 88 = .ok (.iconst 1, 1) := by decide +kernel
theorem d_M_meet_89 : decode b_M_meet 89 = .ok (.ireturn, 1) := by decide +kernel
theorem d_M_meet_90 : decode b_M_meet 90 = .ok (.aload_n 0, 1) := by decide +kernel
theorem d_M_meet_91 : decode b_M_meet 91 = .ok (.getfield 25, 3) := by decide +kernel
theorem d_M_meet_94 : decode b_M_meet 94 = .ok (.iload_n 1, 1) := by decide +kernel
theorem d_M_meet_95 : decode b_M_meet 95 = .ok (.iaload, 1) := by decide +kernel
theorem d_M_meet_96 : decode b_M_meet 96 = .ok (.aload_n 0, 1) := by decide +kernel
theorem d_M_meet_97 : decode b_M_meet 97 = .ok (.getfield 28, 3) := by decide +kernel
theorem d_M_meet_100 : decode b_M_meet 100 = .ok (.iload_n 1, 1) := by decide +kernel
theorem d_M_meet_101 : decode b_M_meet 101 = .ok (.iaload, 1) := by decide +kernel
theorem d_M_meet_102 : decode b_M_meet 102 = .ok (.aload_n 0, 1) := by decide +kernel
theorem d_M_meet_103 : decode b_M_meet 103 = .ok (.getfield 25, 3) := by decide +kernel
theorem d_M_meet_106 : decode b_M_meet 106 = .ok (.iload_n 2, 1) := by decide +kernel
theorem d_M_meet_107 : decode b_M_meet 107 = .ok (.iaload, 1) := by decide +kernel
theorem d_M_meet_108 : decode b_M_meet 108 = .ok (.aload_n 0, 1) := by decide +kernel
theorem d_M_meet_109 : decode b_M_meet 109 = .ok (.getfield 28, 3) := by decide +kernel
theorem d_M_meet_112 : decode b_M_meet 112 = .ok (.iload_n 2, 1) := by decide +kernel
theorem d_M_meet_113 : decode b_M_meet 113 = .ok (.iaload, 1) := by decide +kernel
theorem d_M_meet_114 : decode b_M_meet 114 = .ok (.aload_n 0, 1) := by decide +kernel
theorem d_M_meet_115 : decode b_M_meet 115 = .ok (.getfield 25, 3) := by decide +kernel
theorem d_M_meet_118 : decode b_M_meet 118 = .ok (.iload_n 3, 1) := by decide +kernel
theorem d_M_meet_119 : decode b_M_meet 119 = .ok (.iaload, 1) := by decide +kernel
theorem d_M_meet_120 : decode b_M_meet 120 = .ok (.aload_n 0, 1) := by decide +kernel
theorem d_M_meet_121 : decode b_M_meet 121 = .ok (.getfield 28, 3) := by decide +kernel
theorem d_M_meet_124 : decode b_M_meet 124 = .ok (.iload_n 3, 1) := by decide +kernel
theorem d_M_meet_125 : decode b_M_meet 125 = .ok (.iaload, 1) := by decide +kernel
theorem d_M_meet_126 : decode b_M_meet 126 = .ok (.invokestatic 90, 3) := by decide +kernel
theorem d_M_meet_129 : decode b_M_meet 129 = .ok (.invokestatic 102, 3) := by decide +kernel
theorem d_M_meet_132 : decode b_M_meet 132 = .ok (.aload_n 0, 1) := by decide +kernel
theorem d_M_meet_133 : decode b_M_meet 133 = .ok (.getfield 25, 3) := by decide +kernel
theorem d_M_meet_136 : decode b_M_meet 136 = .ok (.iload_n 1, 1) := by decide +kernel
theorem d_M_meet_137 : decode b_M_meet 137 = .ok (.iaload, 1) := by decide +kernel
theorem d_M_meet_138 : decode b_M_meet 138 = .ok (.aload_n 0, 1) := by decide +kernel
theorem d_M_meet_139 : decode b_M_meet 139 = .ok (.getfield 28, 3) := by decide +kernel
theorem d_M_meet_142 : decode b_M_meet 142 = .ok (.iload_n 1, 1) := by decide +kernel
theorem d_M_meet_143 : decode b_M_meet 143 = .ok (.iaload, 1) := by decide +kernel
theorem d_M_meet_144 : decode b_M_meet 144 = .ok (.aload_n 0, 1) := by decide +kernel
theorem d_M_meet_145 : decode b_M_meet 145 = .ok (.getfield 25, 3) := by decide +kernel
theorem d_M_meet_148 : decode b_M_meet 148 = .ok (.iload_n 2, 1) := by decide +kernel
theorem d_M_meet_149 : decode b_M_meet 149 = .ok (.iaload, 1) := by decide +kernel
theorem d_M_meet_150 : decode b_M_meet 150 = .ok (.aload_n 0, 1) := by decide +kernel
theorem d_M_meet_151 : decode b_M_meet 151 = .ok (.getfield 28, 3) := by decide +kernel
theorem d_M_meet_154 : decode b_M_meet 154 = .ok (.iload_n 2, 1) := by decide +kernel
theorem d_M_meet_155 : decode b_M_meet 155 = .ok (.iaload, 1) := by decide +kernel
theorem d_M_meet_156 : decode b_M_meet 156 = .ok (.aload_n 0, 1) := by decide +kernel
theorem d_M_meet_157 : decode b_M_meet 157 = .ok (.getfield 25, 3) := by decide +kernel
theorem d_M_meet_160 : decode b_M_meet 160 = .ok (.iload 4, 2) := by decide +kernel
theorem d_M_meet_162 : decode b_M_meet 162 = .ok (.iaload, 1) := by decide +kernel
theorem d_M_meet_163 : decode b_M_meet 163 = .ok (.aload_n 0, 1) := by decide +kernel
theorem d_M_meet_164 : decode b_M_meet 164 = .ok (.getfield 28, 3) := by decide +kernel
theorem d_M_meet_167 : decode b_M_meet 167 = .ok (.iload 4, 2) := by decide +kernel
theorem d_M_meet_169 : decode b_M_meet 169 = .ok (.iaload, 1) := by decide +kernel
theorem d_M_meet_170 : decode b_M_meet 170 = .ok (.invokestatic 90, 3) := by decide +kernel
theorem d_M_meet_173 : decode b_M_meet 173 = .ok (.invokestatic 102, 3) := by decide +kernel
theorem d_M_meet_176 : decode b_M_meet 176 = .ok (.imul, 1) := by decide +kernel
theorem d_M_meet_177 : decode b_M_meet 177 = .ok (.istore 5, 2) := by decide +kernel
theorem d_M_meet_179 : decode b_M_meet 179 = .ok (.aload_n 0, 1) := by decide +kernel
theorem d_M_meet_180 : decode b_M_meet 180 = .ok (.getfield 25, 3) := by decide +kernel
theorem d_M_meet_183 : decode b_M_meet 183 = .ok (.iload_n 3, 1) := by decide +kernel
theorem d_M_meet_184 : decode b_M_meet 184 = .ok (.iaload, 1) := by decide +kernel
theorem d_M_meet_185 : decode b_M_meet 185 = .ok (.aload_n 0, 1) := by decide +kernel
theorem d_M_meet_186 : decode b_M_meet 186 = .ok (.getfield 28, 3) := by decide +kernel
theorem d_M_meet_189 : decode b_M_meet 189 = .ok (.iload_n 3, 1) := by decide +kernel
theorem d_M_meet_190 : decode b_M_meet 190 = .ok (.iaload, 1) := by decide +kernel
theorem d_M_meet_191 : decode b_M_meet 191 = .ok (.aload_n 0, 1) := by decide +kernel
theorem d_M_meet_192 : decode b_M_meet 192 = .ok (.getfield 25, 3) := by decide +kernel
theorem d_M_meet_195 : decode b_M_meet 195 = .ok (.iload 4, 2) := by decide +kernel
theorem d_M_meet_197 : decode b_M_meet 197 = .ok (.iaload, 1) := by decide +kernel
theorem d_M_meet_198 : decode b_M_meet 198 = .ok (.aload_n 0, 1) := by decide +kernel
theorem d_M_meet_199 : decode b_M_meet 199 = .ok (.getfield 28, 3) := by decide +kernel
theorem d_M_meet_202 : decode b_M_meet 202 = .ok (.iload 4, 2) := by decide +kernel
theorem d_M_meet_204 : decode b_M_meet 204 = .ok (.iaload, 1) := by decide +kernel
theorem d_M_meet_205 : decode b_M_meet 205 = .ok (.aload_n 0, 1) := by decide +kernel
theorem d_M_meet_206 : decode b_M_meet 206 = .ok (.getfield 25, 3) := by decide +kernel
theorem d_M_meet_209 : decode b_M_meet 209 = .ok (.iload_n 1, 1) := by decide +kernel
theorem d_M_meet_210 : decode b_M_meet 210 = .ok (.iaload, 1) := by decide +kernel
theorem d_M_meet_211 : decode b_M_meet 211 = .ok (.aload_n 0, 1) := by decide +kernel
theorem d_M_meet_212 : decode b_M_meet 212 = .ok (.getfield 28, 3) := by decide +kernel
theorem d_M_meet_215 : decode b_M_meet 215 = .ok (.iload_n 1, 1) := by decide +kernel
theorem d_M_meet_216 : decode b_M_meet 216 = .ok (.iaload, 1) := by decide +kernel
theorem d_M_meet_217 : decode b_M_meet 217 = .ok (.invokestatic 90, 3) := by decide +kernel
theorem d_M_meet_220 : decode b_M_meet 220 = .ok (.invokestatic 102, 3) := by decide +kernel
theorem d_M_meet_223 : decode b_M_meet 223 = .ok (.aload_n 0, 1) := by decide +kernel
theorem d_M_meet_224 : decode b_M_meet 224 = .ok (.getfield 25, 3) := by decide +kernel
theorem d_M_meet_227 : decode b_M_meet 227 = .ok (.iload_n 3, 1) := by decide +kernel
theorem d_M_meet_228 : decode b_M_meet 228 = .ok (.iaload, 1) := by decide +kernel
theorem d_M_meet_229 : decode b_M_meet 229 = .ok (.aload_n 0, 1) := by decide +kernel
theorem d_M_meet_230 : decode b_M_meet 230 = .ok (.getfield 28, 3) := by decide +kernel
theorem d_M_meet_233 : decode b_M_meet 233 = .ok (.iload_n 3, 1) := by decide +kernel
theorem d_M_meet_234 : decode b_M_meet 234 = .ok (.iaload, 1) := by decide +kernel
theorem d_M_meet_235 : decode b_M_meet 235 = .ok (.aload_n 0, 1) := by decide +kernel
theorem d_M_meet_236 : decode b_M_meet 236 = .ok (.getfield 25, 3) := by decide +kernel
theorem d_M_meet_239 : decode b_M_meet 239 = .ok (.iload 4, 2) := by decide +kernel
theorem d_M_meet_241 : decode b_M_meet 241 = .ok (.iaload, 1) := by decide +kernel
theorem d_M_meet_242 : decode b_M_meet 242 = .ok (.aload_n 0, 1) := by decide +kernel
theorem d_M_meet_243 : decode b_M_meet 243 = .ok (.getfield 28, 3) := by decide +kernel
theorem d_M_meet_246 : decode b_M_meet 246 = .ok (.iload 4, 2) := by decide +kernel
theorem d_M_meet_248 : decode b_M_meet 248 = .ok (.iaload, 1) := by decide +kernel
theorem d_M_meet_249 : decode b_M_meet 249 = .ok (.aload_n 0, 1) := by decide +kernel
theorem d_M_meet_250 : decode b_M_meet 250 = .ok (.getfield 25, 3) := by decide +kernel
theorem d_M_meet_253 : decode b_M_meet 253 = .ok (.iload_n 2, 1) := by decide +kernel
theorem d_M_meet_254 : decode b_M_meet 254 = .ok (.iaload, 1) := by decide +kernel
theorem d_M_meet_255 : decode b_M_meet 255 = .ok (.aload_n 0, 1) := by decide +kernel
theorem d_M_meet_256 : decode b_M_meet 256 = .ok (.getfield 28, 3) := by decide +kernel
theorem d_M_meet_259 : decode b_M_meet 259 = .ok (.iload_n 2, 1) := by decide +kernel
theorem d_M_meet_260 : decode b_M_meet 260 = .ok (.iaload, 1) := by decide +kernel
theorem d_M_meet_261 : decode b_M_meet 261 = .ok (.invokestatic 90, 3) := by decide +kernel
theorem d_M_meet_264 : decode b_M_meet 264 = .ok (.invokestatic 102, 3) := by decide +kernel
theorem d_M_meet_267 : decode b_M_meet 267 = .ok (.imul, 1) := by decide +kernel
theorem d_M_meet_268 : decode b_M_meet 268 = .ok (.istore 6, 2) := by decide +kernel
theorem d_M_meet_270 : decode b_M_meet 270 = .ok (.iload 5, 2) := by decide +kernel
theorem d_M_meet_272 : decode b_M_meet 272 = .ok (.ifCond .ge 12, 3) := by decide +kernel
theorem d_M_meet_275 : decode b_M_meet 275 = .ok (.iload 6, 2) := by decide +kernel
theorem d_M_meet_277 : decode b_M_meet 277 = .ok (.ifCond .ge 7, 3) := by decide +kernel
theorem d_M_meet_280 : decode b_M_meet 280 = .ok (.iconst 1, 1) := by decide +kernel
theorem d_M_meet_281 : decode b_M_meet 281 = .ok (.goto 4, 3) := by decide +kernel
theorem d_M_meet_284 : decode b_M_meet 284 = .ok (.iconst 0, 1) := by decide +kernel
theorem d_M_meet_285 : decode b_M_meet 285 = .ok (.ireturn, 1) := by decide +kernel
theorem d_M_after_0 : decode b_M_after 0 = .ok (.bipush 12, 2) := by decide +kernel
theorem d_M_after_2 : decode b_M_after 2 = .ok (.iload_n 1, 1) := by decide +kernel
theorem d_M_after_3 : decode b_M_after 3 = .ok (.imul, 1) := by decide +kernel
theorem d_M_after_4 : decode b_M_after 4 = .ok (.iload_n 2, 1) := by decide +kernel
theorem d_M_after_5 : decode b_M_after 5 = .ok (.iconst 1, 1) := by decide +kernel
theorem d_M_after_6 : decode b_M_after 6 = .ok (.iadd, 1) := by decide +kernel
theorem d_M_after_7 : decode b_M_after 7 = .ok (.aload_n 0, 1) := by decide +kernel
theorem d_M_after_8 : decode b_M_after 8 = .ok (.getfield 22, 3) := by decide +kernel
theorem d_M_after_11 : decode b_M_after 11 = .ok (.iload_n 1, 1) := by decide +kernel
theorem d_M_after_12 : decode b_M_after 12 = .ok (.iaload, 1) := by decide +kernel
theorem d_M_after_13 : decode b_M_after 13 = .ok (.irem, 1) := by decide +kernel
theorem d_M_after_14 : decode b_M_after 14 = .ok (.iadd, 1) := by decide +kernel
theorem d_M_after_15 : decode b_M_after 15 = .ok (.ireturn, 1) := by decide +kernel
theorem d_M_canClose_0 : decode b_M_canClose 0 = .ok (.aload_n 0, 1) := by decide +kernel
theorem d_M_canClose_1 : decode b_M_canClose 1 = .ok (.getfield 22, 3) := by decide +kernel
theorem d_M_canClose_4 : decode b_M_canClose 4 = .ok (.iload_n 1, 1) := by decide +kernel
theorem d_M_canClose_5 : decode b_M_canClose 5 = .ok (.iaload, 1) := by decide +kernel
theorem d_M_canClose_6 : decode b_M_canClose 6 = .ok (.istore_n 2, 1) := by decide +kernel
theorem d_M_canClose_7 : decode b_M_canClose 7 = .ok (.iload_n 2, 1) := by decide +kernel
theorem d_M_canClose_8 : decode b_M_canClose 8 = .ok (.iconst 3, 1) := by decide +kernel
theorem d_M_canClose_9 : decode b_M_canClose 9 = .ok (.if_icmp .lt 7, 3) := by decide +kernel
theorem d_M_canClose_12 : decode b_M_canClose 12 = .ok (.iconst 1, 1) := by decide +kernel
theorem d_M_canClose_13 : decode b_M_canClose 13 = .ok (.goto 4, 3) := by decide +kernel
theorem d_M_canClose_16 : decode b_M_canClose 16 = .ok (.iconst 0, 1) := by decide +kernel
theorem d_M_canClose_17 : decode b_M_canClose 17 = .ok (.istore_n 3, 1) := by decide +kernel
theorem d_M_canClose_18 : decode b_M_canClose 18 = .ok (.iconst 0, 1) := by decide +kernel
theorem d_M_canClose_19 : decode b_M_canClose 19 = .ok (.istore 4, 2) := by decide +kernel
theorem d_M_canClose_21 : decode b_M_canClose 21 = .ok (.iload 4, 2) := by decide +kernel
theorem d_M_canClose_23 : decode b_M_canClose 23 = .ok (.iload_n 2, 1) := by decide +kernel
theorem d_M_canClose_24 : decode b_M_canClose 24 = .ok (.if_icmp .ge 89, 3) := by decide +kernel
theorem d_M_canClose_27 : decode b_M_canClose 27 = .ok (.iconst 0, 1) := by decide +kernel
theorem d_M_canClose_28 : decode b_M_canClose 28 = .ok (.istore 5, 2) := by decide +kernel
theorem d_M_canClose_30 : decode b_M_canClose 30 = .ok (.iload 5, 2) := by decide +kernel
theorem d_M_canClose_32 : decode b_M_canClose 32 = .ok (.iload 4, 2) := by decide +kernel
theorem d_M_canClose_34 : decode b_M_canClose 34 = .ok (.if_icmp .ge 73, 3) := by decide +kernel
theorem d_M_canClose_37 : decode b_M_canClose 37 = .ok (.iload_n 3, 1) := by decide +kernel
theorem d_M_canClose_38 : decode b_M_canClose 38 = .ok (.ifCond .eq 61, 3) := by decide +kernel
theorem d_M_canClose_41 : decode b_M_canClose 41 = .ok (.aload_n 0, 1) := by decide +kernel
theorem d_M_canClose_42 : decode b_M_canClose 42 = .ok (.getfield 25, 3) := by decide +kernel
theorem d_M_canClose_45 : decode b_M_canClose 45 = .ok (.bipush 12, 2) := by decide +kernel
theorem d_M_canClose_47 : decode b_M_canClose 47 = .ok (.iload_n 1, 1) := by decide +kernel
theorem d_M_canClose_48 : decode b_M_canClose 48 = .ok (.imul, 1) := by decide +kernel
theorem d_M_canClose_49 : decode b_M_canClose 49 = .ok (.iload 4, 2) := by decide +kernel
theorem d_M_canClose_51 : decode b_M_canClose 51 = .ok (.iadd, 1) := by decide +kernel
theorem d_M_canClose_52 : decode b_M_canClose 52 = .ok (.iaload, 1) := by decide +kernel
theorem d_M_canClose_53 : decode b_M_canClose 53 = .ok (.aload_n 0, 1) := by decide +kernel
theorem d_M_canClose_54 : decode b_M_canClose 54 = .ok (.getfield 25, 3) := by decide +kernel
theorem d_M_canClose_57 : decode b_M_canClose 57 = .ok (.bipush 12, 2) := by decide +kernel
theorem d_M_canClose_59 : decode b_M_canClose 59 = .ok (.iload_n 1, 1) := by decide +kernel
theorem d_M_canClose_60 : decode b_M_canClose 60 = .ok (.imul, 1) := by decide +kernel
theorem d_M_canClose_61 : decode b_M_canClose 61 = .ok (.iload 5, 2) := by decide +kernel
theorem d_M_canClose_63 : decode b_M_canClose 63 = .ok (.iadd, 1) := by decide +kernel
theorem d_M_canClose_64 : decode b_M_canClose 64 = .ok (.iaload, 1) := by decide +kernel
theorem d_M_canClose_65 : decode b_M_canClose 65 = .ok (.if_icmp .ne 30, 3) := by decide +kernel
theorem d_M_canClose_68 : decode b_M_canClose 68 = .ok (.aload_n 0, 1) := by decide +kernel
theorem d_M_canClose_69 : decode b_M_canClose 69 = .ok (.getfield 28, 3) := by decide +kernel
theorem d_M_canClose_72 : decode b_M_canClose 72 = .ok (.bipush 12, 2) := by decide +kernel
theorem d_M_canClose_74 : decode b_M_canClose 74 = .ok (.iload_n 1, 1) := by decide +kernel
theorem d_M_canClose_75 : decode b_M_canClose 75 = .ok (.imul, 1) := by decide +kernel
theorem d_M_canClose_76 : decode b_M_canClose 76 = .ok (.iload 4, 2) := by decide +kernel
theorem d_M_canClose_78 : decode b_M_canClose 78 = .ok (.iadd, 1) := by decide +kernel
theorem d_M_canClose_79 : decode b_M_canClose 79 = .ok (.iaload, 1) := by decide +kernel
theorem d_M_canClose_80 : decode b_M_canClose 80 = .ok (.aload_n 0, 1) := by decide +kernel
theorem d_M_canClose_81 : decode b_M_canClose 81 = .ok (.getfield 28, 3) := by decide +kernel
theorem d_M_canClose_84 : decode b_M_canClose 84 = .ok (.bipush 12, 2) := by decide +kernel
theorem d_M_canClose_86 : decode b_M_canClose 86 = .ok (.iload_n 1, 1) := by decide +kernel
theorem d_M_canClose_87 : decode b_M_canClose 87 = .ok (.imul, 1) := by decide +kernel
theorem d_M_canClose_88 : decode b_M_canClose 88 = .ok (.iload 5, 2) := by decide +kernel
theorem d_M_canClose_90 : decode b_M_canClose 90 = .ok (.iadd, 1) := by decide +kernel
theorem d_M_canClose_91 : decode b_M_canClose 91 = .ok (.iaload, 1) := by decide +kernel
theorem d_M_canClose_92 : decode b_M_canClose 92 = .ok (.if_icmp .eq 7, 3) := by decide +kernel
theorem d_M_canClose_95 : decode b_M_canClose 95 = .ok (.iconst 1, 1) := by decide +kernel
theorem d_M_canClose_96 : decode b_M_canClose 96 = .ok (.goto 4, 3) := by decide +kernel
theorem d_M_canClose_99 : decode b_M_canClose 99 = .ok (.iconst 0, 1) := by decide +kernel
theorem d_M_canClose_100 : decode b_M_canClose 100 = .ok (.istore_n 3, 1) := by decide +kernel
theorem d_M_canClose_101 : decode b_M_canClose 101 = .ok (.iinc 5 1, 3) := by decide +kernel
theorem d_M_canClose_104 : decode b_M_canClose 104 = .ok (.goto (-74), 3) := by decide +kernel
theorem d_M_canClose_107 : decode b_M_canClose 107 = .ok (.iinc 4 1, 3) := by decide +kernel
theorem d_M_canClose_110 : decode b_M_canClose 110 = .ok (.goto (-89), 3) := by decide +kernel
theorem d_M_canClose_113 : decode b_M_canClose 113 = .ok (.iconst 0, 1) := by decide +kernel
theorem d_M_canClose_114 : decode b_M_canClose 114 = .ok (.istore 4, 2) := by decide +kernel
theorem d_M_canClose_116 : decode b_M_canClose 116 = .ok (.iload 4, 2) := by decide +kernel
theorem d_M_canClose_118 : decode b_M_canClose 118 = .ok (.iload_n 2, 1) := by decide +kernel
theorem d_M_canClose_119 : decode b_M_canClose 119 = .ok (.if_icmp .ge 189, 3) := by decide +kernel
theorem d_M_canClose_122 : decode b_M_canClose 122 = .ok (.iload_n 3, 1) := by decide +kernel
theorem d_M_canClose_123 : decode b_M_canClose 123 = .ok (.ifCond .eq 185, 3) := by decide +kernel
theorem d_M_canClose_126 : decode b_M_canClose 126 = .ok (.bipush 12, 2) := by decide +kernel
theorem d_M_canClose_128 : decode b_M_canClose 128 = .ok (.iload_n 1, 1) := by decide +kernel
theorem d_M_canClose_129 : decode b_M_canClose 129 = .ok (.imul, 1) := by decide +kernel
theorem d_M_canClose_130 : decode b_M_canClose 130 = .ok (.iload 4, 2) := by decide +kernel
theorem d_M_canClose_132 : decode b_M_canClose 132 = .ok (.iadd, 1) := by decide +kernel
theorem d_M_canClose_133 : decode b_M_canClose 133 = .ok (.istore 5, 2) := by decide +kernel
theorem d_M_canClose_135 : decode b_M_canClose 135 = .ok (.aload_n 0, 1) := by decide +kernel
theorem d_M_canClose_136 : decode b_M_canClose 136 = .ok (.iload_n 1, 1) := by decide +kernel
theorem d_M_canClose_137 : decode b_M_canClose 137 = .ok (.iload 4, 2) := by decide +kernel
theorem d_M_canClose_139 : decode b_M_canClose 139 = .ok (.invokevirtual 106, 3) := by decide +kernel
theorem d_M_canClose_142 : decode b_M_canClose 142 = .ok (.istore 6, 2) := by decide +kernel
theorem d_M_canClose_144 : decode b_M_canClose 144 = .ok (.aload_n 0, 1) := by decide +kernel
theorem d_M_canClose_145 : decode b_M_canClose 145 = .ok (.iload_n 1, 1) := by decide +kernel
theorem d_M_canClose_146 : decode b_M_canClose 146 = .ok (.iload 4, 2) := by decide +kernel
theorem d_M_canClose_148 : decode b_M_canClose 148 = .ok (.iconst 1, 1) := by decide +kernel
theorem d_M_canClose_149 : decode b_M_canClose 149 = .ok (.iadd, 1) := by decide +kernel
theorem d_M_canClose_150 : decode b_M_canClose 150 = .ok (.invokevirtual 106, 3) := by decide +kernel
theorem d_M_canClose_153 : decode b_M_canClose 153 = .ok (.istore 7, 2) := by decide +kernel
theorem d_M_canClose_155 : decode b_M_canClose 155 = .ok (.aload_n 0, 1) := by decide +kernel
theorem d_M_canClose_156 : decode b_M_canClose 156 = .ok (.iload 5, 2) := by decide +kernel
theorem d_M_canClose_158 : decode b_M_canClose 158 = .ok (.iload 6, 2) := by decide +kernel
theorem d_M_canClose_160 : decode b_M_canClose 160 = .ok (.aload_n 0, 1) := by decide +kernel
theorem d_M_canClose_161 : decode b_M_canClose 161 = .ok (.getfield 25, 3) := by decide +kernel
theorem d_M_canClose_164 : decode b_M_canClose 164 = .ok (.iload 7, 2) := by decide +kernel
theorem d_M_canClose_166 : decode b_M_canClose 166 = .ok (.iaload, 1) := by decide +kernel
theorem d_M_canClose_167 : decode b_M_canClose 167 = .ok (.aload_n 0, 1) := by decide +kernel
theorem d_M_canClose_168 : decode b_M_canClose 168 = .ok (.getfield 28, 3) := by decide +kernel
theorem d_M_canClose_171 : decode b_M_canClose 171 = .ok (.iload 7, 2) := by decide +kernel
theorem d_M_canClose_173 : decode b_M_canClose 173 = .ok (.iaload, 1) := by decide +kernel
theorem d_M_canClose_174 : decode b_M_canClose 174 = .ok (.invokevirtual 98, 3) := by decide +kernel
theorem d_M_canClose_177 : decode b_M_canClose 177 = .ok (.ifCond .ne 32, 3) := by decide +kernel
theorem d_M_canClose_180 : decode b_M_canClose 180 = .ok (.aload_n 0, 1) := by decide +kernel
theorem d_M_canClose_181 : decode b_M_canClose 181 = .ok (.iload 6, 2) := by decide +kernel
theorem d_M_canClose_183 : decode b_M_canClose 183 = .ok (.iload 7, 2) := by decide +kernel
theorem d_M_canClose_185 : decode b_M_canClose 185 = .ok (.aload_n 0, 1) := by decide +kernel
theorem d_M_canClose_186 : decode b_M_canClose 186 = .ok (.getfield 25, 3) := by decide +kernel
theorem d_M_canClose_189 : decode b_M_canClose 189 = .ok (.iload 5, 2) := by decide +kernel
theorem d_M_canClose_191 : decode b_M_canClose 191 = .ok (.iaload, 1) := by decide +kernel
theorem d_M_canClose_192 : decode b_M_canClose 192 = .ok (.aload_n 0, 1) := by decide +kernel
theorem d_M_canClose_193 : decode b_M_canClose 193 = .ok (.getfield 28, 3) := by decide +kernel
theorem d_M_canClose_196 : decode b_M_canClose 196 = .ok (.iload 5, 2) := by decide +kernel
theorem d_M_canClose_198 : decode b_M_canClose 198 = .ok (.iaload, 1) := by decide +kernel
theorem d_M_canClose_199 : decode b_M_canClose 199 = .ok (.invokevirtual 98, 3) := by decide +kernel
theorem d_M_canClose_202 : decode b_M_canClose 202 = .ok (.ifCond .ne 7, 3) := by decide +kernel
theorem d_M_canClose_205 : decode b_M_canClose 205 = .ok (.iconst 1, 1) := by decide +kernel
theorem d_M_canClose_206 : decode b_M_canClose 206 = .ok (.goto 4, 3) := by decide +kernel
theorem d_M_canClose_209 : decode b_M_canClose 209 = .ok (.iconst 0, 1) := by decide +kernel
theorem d_M_canClose_210 : decode b_M_canClose 210 = .ok (.istore_n 3, 1) := by decide +kernel
theorem d_M_canClose_211 : decode b_M_canClose 211 = .ok (.iconst 0, 1) := by decide +kernel
theorem d_M_canClose_212 : decode b_M_canClose 212 = .ok (.istore 8, 2) := by decide +kernel
theorem d_M_canClose_214 : decode b_M_canClose 214 = .ok (.iload 8, 2) := by decide +kernel
theorem d_M_canClose_216 : decode b_M_canClose 216 = .ok (.iload_n 2, 1) := by decide +kernel
theorem d_M_canClose_217 : decode b_M_canClose 217 = .ok (.if_icmp .ge 85, 3) := by decide +kernel
theorem d_M_canClose_220 : decode b_M_canClose 220 = .ok (.iload_n 3, 1) := by decide +kernel
theorem d_M_canClose_221 : decode b_M_canClose 221 = .ok (.ifCond .eq 81, 3) := by decide +kernel
theorem d_M_canClose_224 : decode b_M_canClose 224 = .ok (.iload 8, 2) := by decide +kernel
theorem d_M_canClose_226 : decode b_M_canClose 226 = .ok (.iload 4, 2) := by decide +kernel
theorem d_M_canClose_228 : decode b_M_canClose 228 = .ok (.if_icmp .eq 29, 3) := by decide +kernel
theorem d_M_canClose_231 : decode b_M_canClose 231 = .ok (.iload 8, 2) := by decide +kernel
theorem d_M_canClose_233 : decode b_M_canClose 233 = .ok (.iconst 1, 1) := by decide +kernel
theorem d_M_canClose_234 : decode b_M_canClose 234 = .ok (.iadd, 1) := by decide +kernel
theorem d_M_canClose_235 : decode b_M_canClose 235 = .ok (.iload_n 2, 1) := by decide +kernel
theorem d_M_canClose_236 : decode b_M_canClose 236 = .ok (.irem, 1) := by decide +kernel
theorem d_M_canClose_237 : decode b_M_canClose 237 = .ok (.iload 4, 2) := by decide +kernel
theorem d_M_canClose_239 : decode b_M_canClose 239 = .ok (.if_icmp .eq 18, 3) := by decide +kernel
theorem d_M_canClose_242 : decode b_M_canClose 242 = .ok (.iload 4, 2) := by decide +kernel
theorem d_M_canClose_244 : decode b_M_canClose 244 = .ok (.iconst 1, 1) := by decide +kernel
theorem d_M_canClose_245 : decode b_M_canClose 245 = .ok (.iadd, 1) := by decide +kernel
theorem d_M_canClose_246 : decode b_M_canClose 246 = .ok (.iload_n 2, 1) := by decide +kernel
theorem d_M_canClose_247 : decode b_M_canClose 247 = .ok (.irem, 1) := by decide +kernel
theorem d_M_canClose_248 : decode b_M_canClose 248 = .ok (.iload 8, 2) := by decide +kernel
theorem d_M_canClose_250 : decode b_M_canClose 250 = .ok (.if_icmp .eq 7, 3) := by decide +kernel
theorem d_M_canClose_253 : decode b_M_canClose 253 = .ok (.iconst 1, 1) := by decide +kernel
theorem d_M_canClose_254 : decode b_M_canClose 254 = .ok (.goto 4, 3) := by decide +kernel
theorem d_M_canClose_257 : decode b_M_canClose 257 = .ok (.iconst 0, 1) := by decide +kernel
theorem d_M_canClose_258 : decode b_M_canClose 258 = .ok (.istore 9, 2) := by decide +kernel
theorem d_M_canClose_260 : decode b_M_canClose 260 = .ok (.iload 9, 2) := by decide +kernel
theorem d_M_canClose_262 : decode b_M_canClose 262 = .ok (.ifCond .eq 28, 3) := by decide +kernel
theorem d_M_canClose_265 : decode b_M_canClose 265 = .ok (.aload_n 0, 1) := by decide +kernel
theorem d_M_canClose_266 : decode b_M_canClose 266 = .ok (.iload 5, 2) := by decide +kernel
theorem d_M_canClose_268 : decode b_M_canClose 268 = .ok (.iload 6, 2) := by decide +kernel
theorem d_M_canClose_270 : decode b_M_canClose 270 = .ok (.bipush 12, 2) := by decide +kernel
theorem d_M_canClose_272 : decode b_M_canClose 272 = .ok (.iload_n 1, 1) := by decide +kernel
theorem d_M_canClose_273 : decode b_M_canClose 273 = .ok (.imul, 1) := by decide +kernel
theorem d_M_canClose_274 : decode b_M_canClose 274 = .ok (.iload 8, 2) := by decide +kernel
theorem d_M_canClose_276 : decode b_M_canClose 276 = .ok (.iadd, 1) := by decide +kernel
theorem d_M_canClose_277 : decode b_M_canClose 277 = .ok (.aload_n 0, 1) := by decide +kernel
theorem d_M_canClose_278 : decode b_M_canClose 278 = .ok (.iload_n 1, 1) := by decide +kernel
theorem d_M_canClose_279 : decode b_M_canClose 279 = .ok (.iload 8, 2) := by decide +kernel
theorem d_M_canClose_281 : decode b_M_canClose 281 = .ok (.invokevirtual 106, 3) := by decide +kernel
theorem d_M_canClose_284 : decode b_M_canClose 284 = .ok (.invokevirtual 110, 3) := by decide +kernel
theorem d_M_canClose_287 : decode b_M_canClose 287 = .ok (.ifCond .ne 7, 3) := by decide +kernel
theorem d_M_canClose_290 : decode b_M_canClose 290 = .ok (.iconst 1, 1) := by decide +kernel
theorem d_M_canClose_291 : decode b_M_canClose 291 = .ok (.goto 4, 3) := by decide +kernel
theorem d_M_canClose_294 : decode b_M_canClose 294 = .ok (.iconst 0, 1) := by decide +kernel
theorem d_M_canClose_295 : decode b_M_canClose 295 = .ok (.istore_n 3, 1) := by decide +kernel
theorem d_M_canClose_296 : decode b_M_canClose 296 = .ok (.iinc 8 1, 3) := by decide +kernel
theorem d_M_canClose_299 : decode b_M_canClose 299 = .ok (.goto (-85), 3) := by decide +kernel
theorem d_M_canClose_302 : decode b_M_canClose 302 = .ok (.iinc 4 1, 3) := by decide +kernel
theorem d_M_canClose_305 : decode b_M_canClose 305 = .ok (.goto (-189), 3) := by decide +kernel
theorem d_M_canClose_308 : decode b_M_canClose 308 = .ok (.iload_n 3, 1) := by decide +kernel
theorem d_M_canClose_309 : decode b_M_canClose 309 = .ok (.ireturn, 1) := by decide +kernel
theorem d_M_free_0 : decode b_M_free 0 = .ok (.aload_n 0, 1) := by decide +kernel
theorem d_M_free_1 : decode b_M_free 1 = .ok (.getfield 34, 3) := by decide +kernel
theorem d_M_free_4 : decode b_M_free 4 = .ok (.iload_n 1, 1) := by decide +kernel
theorem d_M_free_5 : decode b_M_free 5 = .ok (.iaload, 1) := by decide +kernel
theorem d_M_free_6 : decode b_M_free 6 = .ok (.iconst (-1), 1) := by decide +kernel
theorem d_M_free_7 : decode b_M_free 7 = .ok (.if_icmp .eq 22, 3) := by decide +kernel
theorem d_M_free_10 : decode b_M_free 10 = .ok (.aload_n 0, 1) := by decide +kernel
theorem d_M_free_11 : decode b_M_free 11 = .ok (.getfield 34, 3) := by decide +kernel
theorem d_M_free_14 : decode b_M_free 14 = .ok (.aload_n 0, 1) := by decide +kernel
theorem d_M_free_15 : decode b_M_free 15 = .ok (.getfield 34, 3) := by decide +kernel
theorem d_M_free_18 : decode b_M_free 18 = .ok (.iload_n 1, 1) := by decide +kernel
theorem d_M_free_19 : decode b_M_free 19 = .ok (.iaload, 1) := by decide +kernel
theorem d_M_free_20 : decode b_M_free 20 = .ok (.iconst (-1), 1) := by decide +kernel
theorem d_M_free_21 : decode b_M_free 21 = .ok (.iastore, 1) := by decide +kernel
theorem d_M_free_22 : decode b_M_free 22 = .ok (.aload_n 0, 1) := by decide +kernel
theorem d_M_free_23 : decode b_M_free 23 = .ok (.getfield 34, 3) := by decide +kernel
theorem d_M_free_26 : decode b_M_free 26 = .ok (.iload_n 1, 1) := by decide +kernel
theorem d_M_free_27 : decode b_M_free 27 = .ok (.iconst (-1), 1) := by decide +kernel
theorem d_M_free_28 : decode b_M_free 28 = .ok (.iastore, 1) := by decide +kernel
theorem d_M_free_29 : decode b_M_free 29 = .ok (.return_, 1) := by decide +kernel
theorem d_M_forced_0 : decode b_M_forced 0 = .ok (.iconst (-1), 1) := by decide +kernel
theorem d_M_forced_1 : decode b_M_forced 1 = .ok (.istore_n 3, 1) := by decide +kernel
theorem d_M_forced_2 : decode b_M_forced 2 = .ok (.iconst 0, 1) := by decide +kernel
theorem d_M_forced_3 : decode b_M_forced 3 = .ok (.istore 4, 2) := by decide +kernel
theorem d_M_forced_5 : decode b_M_forced 5 = .ok (.iload 4, 2) := by decide +kernel
theorem d_M_forced_7 : decode b_M_forced 7 = .ok (.aload_n 0, 1) := by decide +kernel
theorem d_M_forced_8 : decode b_M_forced 8 = .ok (.getfield 69, 3) := by decide +kernel
theorem d_M_forced_11 : decode b_M_forced 11 = .ok (.if_icmp .ge 92, 3) := by decide +kernel
theorem d_M_forced_14 : decode b_M_forced 14 = .ok (.aload_n 0, 1) := by decide +kernel
theorem d_M_forced_15 : decode b_M_forced 15 = .ok (.getfield 13, 3) := by decide +kernel
theorem d_M_forced_18 : decode b_M_forced 18 = .ok (.iload 4, 2) := by decide +kernel
theorem d_M_forced_20 : decode b_M_forced 20 = .ok (.iaload, 1) := by decide +kernel
theorem d_M_forced_21 : decode b_M_forced 21 = .ok (.iload_n 1, 1) := by decide +kernel
theorem d_M_forced_22 : decode b_M_forced 22 = .ok (.if_icmp .ne 39, 3) := by decide +kernel
theorem d_M_forced_25 : decode b_M_forced 25 = .ok (.aload_n 0, 1) := by decide +kernel
theorem d_M_forced_26 : decode b_M_forced 26 = .ok (.getfield 31, 3) := by decide +kernel
theorem d_M_forced_29 : decode b_M_forced 29 = .ok (.iload 4, 2) := by decide +kernel
theorem d_M_forced_31 : decode b_M_forced 31 = .ok (.iaload, 1) := by decide +kernel
theorem d_M_forced_32 : decode b_M_forced 32 = .ok (.ifCond .le 29, 3) := by decide +kernel
theorem d_M_forced_35 : decode b_M_forced 35 = .ok (.aload_n 0, 1) := by decide +kernel
theorem d_M_forced_36 : decode b_M_forced 36 = .ok (.getfield 16, 3) := by decide +kernel
theorem d_M_forced_39 : decode b_M_forced 39 = .ok (.iload 4, 2) := by decide +kernel
theorem d_M_forced_41 : decode b_M_forced 41 = .ok (.iaload, 1) := by decide +kernel
theorem d_M_forced_42 : decode b_M_forced 42 = .ok (.iload_n 2, 1) := by decide +kernel
theorem d_M_forced_43 : decode b_M_forced 43 = .ok (.if_icmp .gt 18, 3) := by decide +kernel
theorem d_M_forced_46 : decode b_M_forced 46 = .ok (.iload_n 2, 1) := by decide +kernel
theorem d_M_forced_47 : decode b_M_forced 47 = .ok (.aload_n 0, 1) := by decide +kernel
theorem d_M_forced_48 : decode b_M_forced 48 = .ok (.getfield 19, 3) := by decide +kernel
theorem d_M_forced_51 : decode b_M_forced 51 = .ok (.iload 4, 2) := by decide +kernel
theorem d_M_forced_53 : decode b_M_forced 53 = .ok (.iaload, 1) := by decide +kernel
theorem d_M_forced_54 : decode b_M_forced 54 = .ok (.if_icmp .gt 7, 3) := by decide +kernel
theorem d_M_forced_57 : decode b_M_forced 57 = .ok (.iconst 1, 1) := by decide +kernel
theorem d_M_forced_58 : decode b_M_forced 58 = .ok (.goto 4, 3) := by decide +kernel
theorem d_M_forced_61 : decode b_M_forced 61 = .ok (.iconst 0, 1) := by decide +kernel
theorem d_M_forced_62 : decode b_M_forced 62 = .ok (.istore 5, 2) := by decide +kernel
theorem d_M_forced_64 : decode b_M_forced 64 = .ok (.iload 5, 2) := by decide +kernel
theorem d_M_forced_66 : decode b_M_forced 66 = .ok (.ifCond .eq 29, 3) := by decide +kernel
theorem d_M_forced_69 : decode b_M_forced 69 = .ok (.iload_n 3, 1) := by decide +kernel
theorem d_M_forced_70 : decode b_M_forced 70 = .ok (.iconst (-1), 1) := by decide +kernel
theorem d_M_forced_71 : decode b_M_forced 71 = .ok (.if_icmp .eq 19, 3) := by decide +kernel
theorem d_M_forced_74 : decode b_M_forced 74 = .ok (.aload_n 0, 1) := by decide +kernel
theorem d_M_forced_75 : decode b_M_forced 75 = .ok (.getfield 31, 3) := by decide +kernel
theorem d_M_forced_78 : decode b_M_forced 78 = .ok (.iload 4, 2) := by decide +kernel
theorem d_M_forced_80 : decode b_M_forced 80 = .ok (.iaload, 1) := by decide +kernel
theorem d_M_forced_81 : decode b_M_forced 81 = .ok (.aload_n 0, 1) := by decide +kernel
theorem d_M_forced_82 : decode b_M_forced 82 = .ok (.getfield 31, 3) := by decide +kernel
theorem d_M_forced_85 : decode b_M_forced 85 = .ok (.iload_n 3, 1) := by decide +kernel
theorem d_M_forced_86 : decode b_M_forced 86 = .ok (.iaload, 1) := by decide +kernel
theorem d_M_forced_87 : decode b_M_forced 87 = .ok (.if_icmp .le 8, 3) := by decide +kernel
theorem d_M_forced_90 : decode b_M_forced 90 = .ok (.iload 4, 2) := by decide +kernel
theorem d_M_forced_92 : decode b_M_forced 92 = .ok (.goto 4, 3) := by decide +kernel
theorem d_M_forced_95 : decode b_M_forced 95 = .ok (.iload_n 3, 1) := by decide +kernel
theorem d_M_forced_96 : decode b_M_forced 96 = .ok (.istore_n 3, 1) := by decide +kernel
theorem d_M_forced_97 : decode b_M_forced 97 = .ok (.iinc 4 1, 3) := by decide +kernel
theorem d_M_forced_100 : decode b_M_forced 100 = .ok (.goto (-95), 3) := by decide +kernel
theorem d_M_forced_103 : decode b_M_forced 103 = .ok (.iload_n 3, 1) := by decide +kernel
theorem d_M_forced_104 : decode b_M_forced 104 = .ok (.ireturn, 1) := by decide +kernel
theorem d_M_isIn_0 : decode b_M_isIn 0 = .ok (.iconst 0, 1) := by decide +kernel
theorem d_M_isIn_1 : decode b_M_isIn 1 = .ok (.istore 4, 2) := by decide +kernel
theorem d_M_isIn_3 : decode b_M_isIn 3 = .ok (.iconst 0, 1) := by decide +kernel
theorem d_M_isIn_4 : decode b_M_isIn 4 = .ok (.istore 5, 2) := by decide +kernel
theorem d_M_isIn_6 : decode b_M_isIn 6 = .ok (.iload 5, 2) := by decide +kernel
theorem d_M_isIn_8 : decode b_M_isIn 8 = .ok (.aload_n 0, 1) := by decide +kernel
theorem d_M_isIn_9 : decode b_M_isIn 9 = .ok (.getfield 22, 3) := by decide +kernel
theorem d_M_isIn_12 : decode b_M_isIn 12 = .ok (.iload_n 1, 1) := by decide +kernel
theorem d_M_isIn_13 : decode b_M_isIn 13 = .ok (.iaload, 1) := by decide +kernel
theorem d_M_isIn_14 : decode b_M_isIn 14 = .ok (.if_icmp .ge 176, 3) := by decide +kernel
theorem d_M_isIn_17 : decode b_M_isIn 17 = .ok (.bipush 12, 2) := by decide +kernel
theorem d_M_isIn_19 : decode b_M_isIn 19 = .ok (.iload_n 1, 1) := by decide +kernel
theorem d_M_isIn_20 : decode b_M_isIn 20 = .ok (.imul, 1) := by decide +kernel
theorem d_M_isIn_21 : decode b_M_isIn 21 = .ok (.iload 5, 2) := by decide +kernel
theorem d_M_isIn_23 : decode b_M_isIn 23 = .ok (.iadd, 1) := by decide +kernel
theorem d_M_isIn_24 : decode b_M_isIn 24 = .ok (.istore 6, 2) := by decide +kernel
theorem d_M_isIn_26 : decode b_M_isIn 26 = .ok (.aload_n 0, 1) := by decide +kernel
theorem d_M_isIn_27 : decode b_M_isIn 27 = .ok (.iload_n 1, 1) := by decide +kernel
theorem d_M_isIn_28 : decode b_M_isIn 28 = .ok (.iload 5, 2) := by decide +kernel
theorem d_M_isIn_30 : decode b_M_isIn 30 = .ok (.invokevirtual 106, 3) := by decide +kernel
theorem d_M_isIn_33 : decode b_M_isIn 33 = .ok (.istore 7, 2) := by decide +kernel
theorem d_M_isIn_35 : decode b_M_isIn 35 = .ok (.aload_n 0, 1) := by decide +kernel
theorem d_M_isIn_36 : decode b_M_isIn 36 = .ok (.iload 6, 2) := by decide +kernel
theorem d_M_isIn_38 : decode b_M_isIn 38 = .ok (.iload 7, 2) := by decide +kernel
theorem d_M_isIn_40 : decode b_M_isIn 40 = .ok (.iload_n 2, 1) := by decide +kernel
theorem d_M_isIn_41 : decode b_M_isIn 41 = .ok (.iload_n 3, 1) := by decide +kernel
theorem d_M_isIn_42 : decode b_M_isIn 42 = .ok (.invokevirtual 98, 3) := by decide +kernel
theorem d_M_isIn_45 : decode b_M_isIn 45 = .ok (.ifCond .eq 5, 3) := by decide +kernel
theorem d_M_isIn_48 : decode b_M_isIn 48 = .ok (.iconst 1, 1) := by decide +kernel
theorem d_M_isIn_49 : decode b_M_isIn 49 = .ok (.ireturn, 1) := by decide +kernel
theorem d_M_isIn_50 : decode b_M_isIn 50 = .ok (.aload_n 0, 1) := by decide +kernel
theorem d_M_isIn_51 : decode b_M_isIn 51 = .ok (.getfield 28, 3) := by decide +kernel
theorem d_M_isIn_54 : decode b_M_isIn 54 = .ok (.iload 6, 2) := by decide +kernel
theorem d_M_isIn_56 : decode b_M_isIn 56 = .ok (.iaload, 1) := by decide +kernel
theorem d_M_isIn_57 : decode b_M_isIn 57 = .ok (.iload_n 3, 1) := by decide +kernel
theorem d_M_isIn_58 : decode b_M_isIn 58 = .ok (.if_icmp .le 7, 3) := by decide +kernel
theorem d_M_isIn_61 : decode b_M_isIn 61 = .ok (.iconst 1, 1) := by decide +kernel
theorem d_M_isIn_62 : decode b_M_isIn 62 = .ok (.goto 4, 3) := by decide +kernel
theorem d_M_isIn_65 : decode b_M_isIn 65 = .ok (.iconst 0, 1) := by decide +kernel
theorem d_M_isIn_66 : decode b_M_isIn 66 = .ok (.aload_n 0, 1) := by decide +kernel
theorem d_M_isIn_67 : decode b_M_isIn 67 = .ok (.getfield 28, 3) := by decide +kernel
theorem d_M_isIn_70 : decode b_M_isIn 70 = .ok (.iload 7, 2) := by decide +kernel
theorem d_M_isIn_72 : decode b_M_isIn 72 = .ok (.iaload, 1) := by decide +kernel
theorem d_M_isIn_73 : decode b_M_isIn 73 = .ok (.iload_n 3, 1) := by decide +kernel
theorem d_M_isIn_74 : decode b_M_isIn 74 = .ok (.if_icmp .le 7, 3) := by decide +kernel
theorem d_M_isIn_77 : decode b_M_isIn 77 = .ok (.iconst 1, 1) := by decide +kernel
theorem d_M_isIn_78 : decode b_M_isIn 78 = .ok (.goto 4, 3) := by decide +kernel
theorem d_M_isIn_81 : decode b_M_isIn 81 = .ok (.iconst 0, 1) := by decide +kernel
theorem d_M_isIn_82 : decode b_M_isIn 82 = .ok (.if_icmp .eq 7, 3) := by decide +kernel
theorem d_M_isIn_85 : decode b_M_isIn 85 = .ok (.iconst 1, 1) := by decide +kernel
theorem d_M_isIn_86 : decode b_M_isIn 86 = .ok (.goto 4, 3) := by decide +kernel
theorem d_M_isIn_89 : decode b_M_isIn 89 = .ok (.iconst 0, 1) := by decide +kernel
theorem d_M_isIn_90 : decode b_M_isIn 90 = .ok (.istore 8, 2) := by decide +kernel
theorem d_M_isIn_92 : decode b_M_isIn 92 = .ok (.aload_n 0, 1) := by decide +kernel
theorem d_M_isIn_93 : decode b_M_isIn 93 = .ok (.getfield 25, 3) := by decide +kernel
theorem d_M_isIn_96 : decode b_M_isIn 96 = .ok (.iload 6, 2) := by decide +kernel
theorem d_M_isIn_98 : decode b_M_isIn 98 = .ok (.iaload, 1) := by decide +kernel
theorem d_M_isIn_99 : decode b_M_isIn 99 = .ok (.aload_n 0, 1) := by decide +kernel
theorem d_M_isIn_100 : decode b_M_isIn 100 = .ok (.getfield 28, 3) := by decide +kernel
theorem d_M_isIn_103 : decode b_M_isIn 103 = .ok (.iload 6, 2) := by decide +kernel
theorem d_M_isIn_105 : decode b_M_isIn 105 = .ok (.iaload, 1) := by decide +kernel
theorem d_M_isIn_106 : decode b_M_isIn 106 = .ok (.aload_n 0, 1) := by decide +kernel
theorem d_M_isIn_107 : decode b_M_isIn 107 = .ok (.getfield 25, 3) := by decide +kernel
theorem d_M_isIn_110 : decode b_M_isIn 110 = .ok (.iload 7, 2) := by decide +kernel
theorem d_M_isIn_112 : decode b_M_isIn 112 = .ok (.iaload, 1) := by decide +kernel
theorem d_M_isIn_113 : decode b_M_isIn 113 = .ok (.aload_n 0, 1) := by decide +kernel
theorem d_M_isIn_114 : decode b_M_isIn 114 = .ok (.getfield 28, 3) := by decide +kernel
theorem d_M_isIn_117 : decode b_M_isIn 117 = .ok (.iload 7, 2) := by decide +kernel
theorem d_M_isIn_119 : decode b_M_isIn 119 = .ok (.iaload, 1) := by decide +kernel
theorem d_M_isIn_120 : decode b_M_isIn 120 = .ok (.iload_n 2, 1) := by decide +kernel
theorem d_M_isIn_121 : decode b_M_isIn 121 = .ok (.iload_n 3, 1) := by decide +kernel
theorem d_M_isIn_122 : decode b_M_isIn 122 = .ok (.invokestatic 90, 3) := by decide +kernel
theorem d_M_isIn_125 : decode b_M_isIn 125 = .ok (.istore 9, 2) := by decide +kernel
theorem d_M_isIn_127 : decode b_M_isIn 127 = .ok (.iload 8, 2) := by decide +kernel
theorem d_M_isIn_129 : decode b_M_isIn 129 = .ok (.ifCond .eq 51, 3) := by decide +kernel
theorem d_M_isIn_132 : decode b_M_isIn 132 = .ok (.aload_n 0, 1) := by decide +kernel
theorem d_M_isIn_133 : decode b_M_isIn 133 = .ok (.getfield 28, 3) := by decide +kernel
theorem d_M_isIn_136 : decode b_M_isIn 136 = .ok (.iload 7, 2) := by decide +kernel
theorem d_M_isIn_138 : decode b_M_isIn 138 = .ok (.iaload, 1) := by decide +kernel
theorem d_M_isIn_139 : decode b_M_isIn 139 = .ok (.aload_n 0, 1) := by decide +kernel
theorem d_M_isIn_140 : decode b_M_isIn 140 = .ok (.getfield 28, 3) := by decide +kernel
theorem d_M_isIn_143 : decode b_M_isIn 143 = .ok (.iload 6, 2) := by decide +kernel
theorem d_M_isIn_145 : decode b_M_isIn 145 = .ok (.iaload, 1) := by decide +kernel
theorem d_M_isIn_146 : decode b_M_isIn 146 = .ok (.if_icmp .le 7, 3) := by decide +kernel
theorem d_M_isIn_149 : decode b_M_isIn 149 = .ok (.iconst 1, 1) := by decide +kernel
theorem d_M_isIn_150 : decode b_M_isIn 150 = .ok (.goto 4, 3) := by decide +kernel
theorem d_M_isIn_153 : decode b_M_isIn 153 = .ok (.iconst 0, 1) := by decide +kernel
theorem d_M_isIn_154 : decode b_M_isIn 154 = .ok (.iload 9, 2) := by decide +kernel
theorem d_M_isIn_156 : decode b_M_isIn 156 = .ok (.ifCond .le 7, 3) := by decide +kernel
theorem d_M_isIn_159 : decode b_M_isIn 159 = .ok (.iconst 1, 1) := by decide +kernel
theorem d_M_isIn_160 : decode b_M_isIn 160 = .ok (.goto 4, 3) := by decide +kernel
theorem d_M_isIn_163 : decode b_M_isIn 163 = .ok (.iconst 0, 1) := by decide +kernel
theorem d_M_isIn_164 : decode b_M_isIn 164 = .ok (.if_icmp .ne 16, 3) := by decide +kernel
theorem d_M_isIn_167 : decode b_M_isIn 167 = .ok (.iload 4, 2) := by decide +kernel
theorem d_M_isIn_169 : decode b_M_isIn 169 = .ok (.ifCond .ne 7, 3) := by decide +kernel
theorem d_M_isIn_172 : decode b_M_isIn 172 = .ok (.iconst 1, 1) := by decide +kernel
theorem d_M_isIn_173 : decode b_M_isIn 173 = .ok (.goto 9, 3) := by decide +kernel
theorem d_M_isIn_176 : decode b_M_isIn 176 = .ok (.iconst 0, 1) := by decide +kernel
theorem d_M_isIn_177 : decode b_M_isIn 177 = .ok (.goto 5, 3) := by decide +kernel
theorem d_M_isIn_180 : decode b_M_isIn 180 = .ok (.iload 4, 2) := by decide +kernel
theorem d_M_isIn_182 : decode b_M_isIn 182 = .ok (.istore 4, 2) := by decide +kernel
theorem d_M_isIn_184 : decode b_M_isIn 184 = .ok (.iinc 5 1, 3) := by decide +kernel
theorem d_M_isIn_187 : decode b_M_isIn 187 = .ok (.goto (-181), 3) := by decide +kernel
theorem d_M_isIn_190 : decode b_M_isIn 190 = .ok (.iload 4, 2) := by decide +kernel
theorem d_M_isIn_192 : decode b_M_isIn 192 = .ok (.ireturn, 1) := by decide +kernel
theorem d_M_misfits_0 : decode b_M_misfits 0 = .ok (.aload_n 0, 1) := by decide +kernel
theorem d_M_misfits_1 : decode b_M_misfits 1 = .ok (.iload_n 1, 1) := by decide +kernel
theorem d_M_misfits_2 : decode b_M_misfits 2 = .ok (.iload_n 2, 1) := by decide +kernel
theorem d_M_misfits_3 : decode b_M_misfits 3 = .ok (.invokevirtual 123, 3) := by decide +kernel
theorem d_M_misfits_6 : decode b_M_misfits 6 = .ok (.istore_n 3, 1) := by decide +kernel
theorem d_M_misfits_7 : decode b_M_misfits 7 = .ok (.aload_n 0, 1) := by decide +kernel
theorem d_M_misfits_8 : decode b_M_misfits 8 = .ok (.getfield 7, 3) := by decide +kernel
theorem d_M_misfits_11 : decode b_M_misfits 11 = .ok (.iload_n 1, 1) := by decide +kernel
theorem d_M_misfits_12 : decode b_M_misfits 12 = .ok (.iaload, 1) := by decide +kernel
theorem d_M_misfits_13 : decode b_M_misfits 13 = .ok (.iconst (-1), 1) := by decide +kernel
theorem d_M_misfits_14 : decode b_M_misfits 14 = .ok (.if_icmp .ne 7, 3) := by decide +kernel
theorem d_M_misfits_17 : decode b_M_misfits 17 = .ok (.iconst (-1), 1) := by decide +kernel
theorem d_M_misfits_18 : decode b_M_misfits 18 = .ok (.goto 14, 3) := by decide +kernel
theorem d_M_misfits_21 : decode b_M_misfits 21 = .ok (.aload_n 0, 1) := by decide +kernel
theorem d_M_misfits_22 : decode b_M_misfits 22 = .ok (.aload_n 0, 1) := by decide +kernel
theorem d_M_misfits_23 : decode b_M_misfits 23 = .ok (.getfield 7, 3) := by decide +kernel
theorem d_M_misfits_26 : decode b_M_misfits 26 = .ok (.iload_n 1, 1) := by decide +kernel
theorem d_M_misfits_27 : decode b_M_misfits 27 = .ok (.iaload, 1) := by decide +kernel
theorem d_M_misfits_28 : decode b_M_misfits 28 = .ok (.iload_n 2, 1) := by decide +kernel
theorem d_M_misfits_29 : decode b_M_misfits 29 = .ok (.invokevirtual 123, 3) := by decide +kernel
theorem d_M_misfits_32 : decode b_M_misfits 32 = .ok (.istore 4, 2) := by decide +kernel
theorem d_M_misfits_34 : decode b_M_misfits 34 = .ok (.iconst 0, 1) := by decide +kernel
theorem d_M_misfits_35 : decode b_M_misfits 35 = .ok (.istore 5, 2) := by decide +kernel
theorem d_M_misfits_37 : decode b_M_misfits 37 = .ok (.iconst 0, 1) := by decide +kernel
theorem d_M_misfits_38 : decode b_M_misfits 38 = .ok (.istore 6, 2) := by decide +kernel
theorem d_M_misfits_40 : decode b_M_misfits 40 = .ok (.iload_n 3, 1) := by decide +kernel
theorem d_M_misfits_41 : decode b_M_misfits 41 = .ok (.iconst (-1), 1) := by decide +kernel
theorem d_M_misfits_42 : decode b_M_misfits 42 = .ok (.if_icmp .eq 71, 3) := by decide +kernel
theorem d_M_misfits_45 : decode b_M_misfits 45 = .ok (.iload 4, 2) := by decide +kernel
theorem d_M_misfits_47 : decode b_M_misfits 47 = .ok (.iconst (-1), 1) := by decide +kernel
theorem d_M_misfits_48 : decode b_M_misfits 48 = .ok (.if_icmp .eq 65, 3) := by decide +kernel
theorem d_M_misfits_51 : decode b_M_misfits 51 = .ok (.iload 6, 2) := by decide +kernel
theorem d_M_misfits_53 : decode b_M_misfits 53 = .ok (.aload_n 0, 1) := by decide +kernel
theorem d_M_misfits_54 : decode b_M_misfits 54 = .ok (.getfield 22, 3) := by decide +kernel
theorem d_M_misfits_57 : decode b_M_misfits 57 = .ok (.iload_n 3, 1) := by decide +kernel
theorem d_M_misfits_58 : decode b_M_misfits 58 = .ok (.iaload, 1) := by decide +kernel
theorem d_M_misfits_59 : decode b_M_misfits 59 = .ok (.if_icmp .ge 54, 3) := by decide +kernel
theorem d_M_misfits_62 : decode b_M_misfits 62 = .ok (.iload 5, 2) := by decide +kernel
theorem d_M_misfits_64 : decode b_M_misfits 64 = .ok (.ifCond .ne 36, 3) := by decide +kernel
theorem d_M_misfits_67 : decode b_M_misfits 67 = .ok (.aload_n 0, 1) := by decide +kernel
theorem d_M_misfits_68 : decode b_M_misfits 68 = .ok (.iload 4, 2) := by decide +kernel
theorem d_M_misfits_70 : decode b_M_misfits 70 = .ok (.aload_n 0, 1) := by decide +kernel
theorem d_M_misfits_71 : decode b_M_misfits 71 = .ok (.getfield 25, 3) := by decide +kernel
theorem d_M_misfits_74 : decode b_M_misfits 74 = .ok (.bipush 12, 2) := by decide +kernel
theorem d_M_misfits_76 : decode b_M_misfits 76 = .ok (.iload_n 3, 1) := by decide +kernel
theorem d_M_misfits_77 : decode b_M_misfits 77 = .ok (.imul, 1) := by decide +kernel
theorem d_M_misfits_78 : decode b_M_misfits 78 = .ok (.iload 6, 2) := by decide +kernel
theorem d_M_misfits_80 : decode b_M_misfits 80 = .ok (.iadd, 1) := by decide +kernel
theorem d_M_misfits_81 : decode b_M_misfits 81 = .ok (.iaload, 1) := by decide +kernel
theorem d_M_misfits_82 : decode b_M_misfits 82 = .ok (.aload_n 0, 1) := by decide +kernel
theorem d_M_misfits_83 : decode b_M_misfits 83 = .ok (.getfield 28, 3) := by decide +kernel
theorem d_M_misfits_86 : decode b_M_misfits 86 = .ok (.bipush 12, 2) := by decide +kernel
theorem d_M_misfits_88 : decode b_M_misfits 88 = .ok (.iload_n 3, 1) := by decide +kernel
theorem d_M_misfits_89 : decode b_M_misfits 89 = .ok (.imul, 1) := by decide +kernel
theorem d_M_misfits_90 : decode b_M_misfits 90 = .ok (.iload 6, 2) := by decide +kernel
theorem d_M_misfits_92 : decode b_M_misfits 92 = .ok (.iadd, 1) := by decide +kernel
theorem d_M_misfits_93 : decode b_M_misfits 93 = .ok (.iaload, 1) := by decide +kernel
theorem d_M_misfits_94 : decode b_M_misfits 94 = .ok (.invokevirtual 126, 3) := by decide +kernel
theorem d_M_misfits_97 : decode b_M_misfits 97 = .ok (.ifCond .ne 7, 3) := by decide +kernel
theorem d_M_misfits_100 : decode b_M_misfits 100 = .ok (.iconst 1, 1) := by decide +kernel
theorem d_M_misfits_101 : decode b_M_misfits 101 = .ok (.goto 4, 3) := by decide +kernel
theorem d_M_misfits_104 : decode b_M_misfits 104 = .ok (.iconst 0, 1) := by decide +kernel
theorem d_M_misfits_105 : decode b_M_misfits 105 = .ok (.istore 5, 2) := by decide +kernel
theorem d_M_misfits_107 : decode b_M_misfits 107 = .ok (.iinc 6 1, 3) := by decide +kernel
theorem d_M_misfits_110 : decode b_M_misfits 110 = .ok (.goto (-70), 3) := by decide +kernel
theorem d_M_misfits_113 : decode b_M_misfits 113 = .ok (.iload 5, 2) := by decide +kernel
theorem d_M_misfits_115 : decode b_M_misfits 115 = .ok (.ireturn, 1) := by decide +kernel
theorem d_M_part_0 : decode b_M_part 0 = .ok (.aload_n 0, 1) := by decide +kernel
theorem d_M_part_1 : decode b_M_part 1 = .ok (.getfield 49, 3) := by decide +kernel
theorem d_M_part_4 : decode b_M_part 4 = .ok (.iload_n 1, 1) := by decide +kernel
theorem d_M_part_5 : decode b_M_part 5 = .ok (.iaload, 1) := by decide +kernel
theorem d_M_part_6 : decode b_M_part 6 = .ok (.aload_n 0, 1) := by decide +kernel
theorem d_M_part_7 : decode b_M_part 7 = .ok (.getfield 52, 3) := by decide +kernel
theorem d_M_part_10 : decode b_M_part 10 = .ok (.iload_n 1, 1) := by decide +kernel
theorem d_M_part_11 : decode b_M_part 11 = .ok (.iaload, 1) := by decide +kernel
theorem d_M_part_12 : decode b_M_part 12 = .ok (.aload_n 0, 1) := by decide +kernel
theorem d_M_part_13 : decode b_M_part 13 = .ok (.getfield 49, 3) := by decide +kernel
theorem d_M_part_16 : decode b_M_part 16 = .ok (.iload_n 2, 1) := by decide +kernel
theorem d_M_part_17 : decode b_M_part 17 = .ok (.iaload, 1) := by decide +kernel
theorem d_M_part_18 : decode b_M_part 18 = .ok (.aload_n 0, 1) := by decide +kernel
theorem d_M_part_19 : decode b_M_part 19 = .ok (.getfield 52, 3) := by decide +kernel
theorem d_M_part_22 : decode b_M_part 22 = .ok (.iload_n 2, 1) := by decide +kernel
theorem d_M_part_23 : decode b_M_part 23 = .ok (.iaload, 1) := by decide +kernel
theorem d_M_part_24 : decode b_M_part 24 = .ok (.iload_n 3, 1) := by decide +kernel
theorem d_M_part_25 : decode b_M_part 25 = .ok (.iload 4, 2) := by decide +kernel
theorem d_M_part_27 : decode b_M_part 27 = .ok (.invokestatic 90, 3) := by decide +kernel
theorem d_M_part_30 : decode b_M_part 30 = .ok (.ireturn, 1) := by decide +kernel
theorem d_M_holds_0 : decode b_M_holds 0 = .ok (.aload_n 0, 1) := by decide +kernel
theorem d_M_holds_1 : decode b_M_holds 1 = .ok (.iload_n 1, 1) := by decide +kernel
theorem d_M_holds_2 : decode b_M_holds 2 = .ok (.iload_n 2, 1) := by decide +kernel
theorem d_M_holds_3 : decode b_M_holds 3 = .ok (.aload_n 0, 1) := by decide +kernel
theorem d_M_holds_4 : decode b_M_holds 4 = .ok (.getfield 49, 3) := by decide +kernel
theorem d_M_holds_7 : decode b_M_holds 7 = .ok (.iload_n 3, 1) := by decide +kernel
theorem d_M_holds_8 : decode b_M_holds 8 = .ok (.iaload, 1) := by decide +kernel
theorem d_M_holds_9 : decode b_M_holds 9 = .ok (.aload_n 0, 1) := by decide +kernel
theorem d_M_holds_10 : decode b_M_holds 10 = .ok (.getfield 52, 3) := by decide +kernel
theorem d_M_holds_13 : decode b_M_holds 13 = .ok (.iload_n 3, 1) := by decide +kernel
theorem d_M_holds_14 : decode b_M_holds 14 = .ok (.iaload, 1) := by decide +kernel
theorem d_M_holds_15 : decode b_M_holds 15 = .ok (.invokevirtual 138, 3) := by decide +kernel
theorem d_M_holds_18 : decode b_M_holds 18 = .ok (.invokestatic 102, 3) := by decide +kernel
theorem d_M_holds_21 : decode b_M_holds 21 = .ok (.istore 6, 2) := by decide +kernel
theorem d_M_holds_23 : decode b_M_holds 23 = .ok (.iload 6, 2) := by decide +kernel
theorem d_M_holds_25 : decode b_M_holds 25 = .ok (.ifCond .eq 64, 3) := by decide +kernel
theorem d_M_holds_28 : decode b_M_holds 28 = .ok (.iload 6, 2) := by decide +kernel
theorem d_M_holds_30 : decode b_M_holds 30 = .ok (.aload_n 0, 1) := by decide +kernel
theorem d_M_holds_31 : decode b_M_holds 31 = .ok (.iload_n 1, 1) := by decide +kernel
theorem d_M_holds_32 : decode b_M_holds 32 = .ok (.iload_n 2, 1) := by decide +kernel
theorem d_M_holds_33 : decode b_M_holds 33 = .ok (.iload 4, 2) := by decide +kernel
theorem d_M_holds_35 : decode b_M_holds 35 = .ok (.iload 5, 2) := by decide +kernel
theorem d_M_holds_37 : decode b_M_holds 37 = .ok (.invokevirtual 138, 3) := by decide +kernel
theorem d_M_holds_40 : decode b_M_holds 40 = .ok (.invokestatic 102, 3) := by decide +kernel
theorem d_M_holds_43 : decode b_M_holds 43 = .ok (.imul, 1) := by decide +kernel
theorem d_M_holds_44 : decode b_M_holds 44 = .ok (.ifCond .lt 45, 3) := by decide +kernel
theorem d_M_holds_47 : decode b_M_holds 47 = .ok (.iload 6, 2) := by decide +kernel
theorem d_M_holds_49 : decode b_M_holds 49 = .ok (.aload_n 0, 1) := by decide +kernel
theorem d_M_holds_50 : decode b_M_holds 50 = .ok (.iload_n 2, 1) := by decide +kernel
theorem d_M_holds_51 : decode b_M_holds 51 = .ok (.iload_n 3, 1) := by decide +kernel
theorem d_M_holds_52 : decode b_M_holds 52 = .ok (.iload 4, 2) := by decide +kernel
theorem d_M_holds_54 : decode b_M_holds 54 = .ok (.iload 5, 2) := by decide +kernel
theorem d_M_holds_56 : decode b_M_holds 56 = .ok (.invokevirtual 138, 3) := by decide +kernel
theorem d_M_holds_59 : decode b_M_holds 59 = .ok (.invokestatic 102, 3) := by decide +kernel
theorem d_M_holds_62 : decode b_M_holds 62 = .ok (.imul, 1) := by decide +kernel
theorem d_M_holds_63 : decode b_M_holds 63 = .ok (.ifCond .lt 26, 3) := by decide +kernel
theorem d_M_holds_66 : decode b_M_holds 66 = .ok (.iload 6, 2) := by decide +kernel
theorem d_M_holds_68 : decode b_M_holds 68 = .ok (.aload_n 0, 1) := by decide +kernel
theorem d_M_holds_69 : decode b_M_holds 69 = .ok (.iload_n 3, 1) := by decide +kernel
theorem d_M_holds_70 : decode b_M_holds 70 = .ok (.iload_n 1, 1) := by decide +kernel
theorem d_M_holds_71 : decode b_M_holds 71 = .ok (.iload 4, 2) := by decide +kernel
theorem d_M_holds_73 : decode b_M_holds 73 = .ok (.iload 5, 2) := by decide +kernel
theorem d_M_holds_75 : decode b_M_holds 75 = .ok (.invokevirtual 138, 3) := by decide +kernel
theorem d_M_holds_78 : decode b_M_holds 78 = .ok (.invokestatic 102, 3) := by decide +kernel
theorem d_M_holds_81 : decode b_M_holds 81 = .ok (.imul, 1) := by decide +kernel
theorem d_M_holds_82 : decode b_M_holds 82 = .ok (.ifCond .lt 7, 3) := by decide +kernel
theorem d_M_holds_85 : decode b_M_holds 85 = .ok (.iconst 1, 1) := by decide +kernel
theorem d_M_holds_86 : decode b_M_holds 86 = .ok (.goto 4, 3) := by decide +kernel
theorem d_M_holds_89 : decode b_M_holds 89 = .ok (.iconst 0, 1) := by decide +kernel
theorem d_M_holds_90 : decode b_M_holds 90 = .ok (.ireturn, 1) := by decide +kernel
theorem d_M_nearest_0 : decode b_M_nearest 0 = .ok (.lload_n 2, 1) := by decide +kernel
theorem d_M_nearest_1 : decode b_M_nearest 1 = .ok (.lconst 0, 1) := by decide +kernel
theorem d_M_nearest_2 : decode b_M_nearest 2 = .ok (.lcmp, 1) := by decide +kernel
theorem d_M_nearest_3 : decode b_M_nearest 3 = .ok (.ifCond .ge 13, 3) := by decide +kernel
theorem d_M_nearest_6 : decode b_M_nearest 6 = .ok (.lconst 0, 1) := by decide +kernel
theorem d_M_nearest_7 : decode b_M_nearest 7 = .ok (.ldc2_w 142, 3) := by decide +kernel
theorem d_M_nearest_10 : decode b_M_nearest 10 = .ok (.lload_n 0, 1) := by decide +kernel
theorem d_M_nearest_11 : decode b_M_nearest 11 = .ok (.lmul, 1) := by decide +kernel
theorem d_M_nearest_12 : decode b_M_nearest 12 = .ok (.lsub, 1) := by decide +kernel
theorem d_M_nearest_13 : decode b_M_nearest 13 = .ok (.goto 8, 3) := by decide +kernel
theorem d_M_nearest_16 : decode b_M_nearest 16 = .ok (.ldc2_w 142, 3) := by decide +kernel
theorem d_M_nearest_19 : decode b_M_nearest 19 = .ok (.lload_n 0, 1) := by decide +kernel
theorem d_M_nearest_20 : decode b_M_nearest 20 = .ok (.lmul, 1) := by decide +kernel
theorem d_M_nearest_21 : decode b_M_nearest 21 = .ok (.lstore 4, 2) := by decide +kernel
theorem d_M_nearest_23 : decode b_M_nearest 23 = .ok (.lload_n 2, 1) := by decide +kernel
theorem d_M_nearest_24 : decode b_M_nearest 24 = .ok (.lconst 0, 1) := by decide +kernel
theorem d_M_nearest_25 : decode b_M_nearest 25 = .ok (.lcmp, 1) := by decide +kernel
theorem d_M_nearest_26 : decode b_M_nearest 26 = .ok (.ifCond .ge 13, 3) := by decide +kernel
theorem d_M_nearest_29 : decode b_M_nearest 29 = .ok (.lconst 0, 1) := by decide +kernel
theorem d_M_nearest_30 : decode b_M_nearest 30 = .ok (.ldc2_w 142, 3) := by decide +kernel
theorem d_M_nearest_33 : decode b_M_nearest 33 = .ok (.lload_n 2, 1) := by decide +kernel
theorem d_M_nearest_34 : decode b_M_nearest 34 = .ok (.lmul, 1) := by decide +kernel
theorem d_M_nearest_35 : decode b_M_nearest 35 = .ok (.lsub, 1) := by decide +kernel
theorem d_M_nearest_36 : decode b_M_nearest 36 = .ok (.goto 8, 3) := by decide +kernel
theorem d_M_nearest_39 : decode b_M_nearest 39 = .ok (.ldc2_w 142, 3) := by decide +kernel
theorem d_M_nearest_42 : decode b_M_nearest 42 = .ok (.lload_n 2, 1) := by decide +kernel
theorem d_M_nearest_43 : decode b_M_nearest 43 = .ok (.lmul, 1) := by decide +kernel
theorem d_M_nearest_44 : decode b_M_nearest 44 = .ok (.lstore 6, 2) := by decide +kernel
theorem d_M_nearest_46 : decode b_M_nearest 46 = .ok (.lload 4, 2) := by decide +kernel
theorem d_M_nearest_48 : decode b_M_nearest 48 = .ok (.lload 6, 2) := by decide +kernel
theorem d_M_nearest_50 : decode b_M_nearest 50 = .ok (.ldc2_w 142, 3) := by decide +kernel
theorem d_M_nearest_53 : decode b_M_nearest 53 = .ok (.ldiv, 1) := by decide +kernel
theorem d_M_nearest_54 : decode b_M_nearest 54 = .ok (.ladd, 1) := by decide +kernel
theorem d_M_nearest_55 : decode b_M_nearest 55 = .ok (.lstore 8, 2) := by decide +kernel
theorem d_M_nearest_57 : decode b_M_nearest 57 = .ok (.lload 8, 2) := by decide +kernel
theorem d_M_nearest_59 : decode b_M_nearest 59 = .ok (.lload 6, 2) := by decide +kernel
theorem d_M_nearest_61 : decode b_M_nearest 61 = .ok (.ldiv, 1) := by decide +kernel
theorem d_M_nearest_62 : decode b_M_nearest 62 = .ok (.lstore 10, 2) := by decide +kernel
theorem d_M_nearest_64 : decode b_M_nearest 64 = .ok (.lload 10, 2) := by decide +kernel
theorem d_M_nearest_66 : decode b_M_nearest 66 = .ok (.lload 6, 2) := by decide +kernel
theorem d_M_nearest_68 : decode b_M_nearest 68 = .ok (.lmul, 1) := by decide +kernel
theorem d_M_nearest_69 : decode b_M_nearest 69 = .ok (.lload 8, 2) := by decide +kernel
theorem d_M_nearest_71 : decode b_M_nearest 71 = .ok (.lcmp, 1) := by decide +kernel
theorem d_M_nearest_72 : decode b_M_nearest 72 = .ok (.ifCond .le 10, 3) := by decide +kernel
theorem d_M_nearest_75 : decode b_M_nearest 75 = .ok (.lload 10, 2) := by decide +kernel
theorem d_M_nearest_77 : decode b_M_nearest 77 = .ok (.lconst 1, 1) := by decide +kernel
theorem d_M_nearest_78 : decode b_M_nearest 78 = .ok (.lsub, 1) := by decide +kernel
theorem d_M_nearest_79 : decode b_M_nearest 79 = .ok (.goto 5, 3) := by decide +kernel
theorem d_M_nearest_82 : decode b_M_nearest 82 = .ok (.lload 10, 2) := by decide +kernel
theorem d_M_nearest_84 : decode b_M_nearest 84 = .ok (.l2i, 1) := by decide +kernel
theorem d_M_nearest_85 : decode b_M_nearest 85 = .ok (.ireturn, 1) := by decide +kernel
