theorem d_M_place_0 : decode b_M_place 0 = .ok (.aload_n 0, 1) := by decide +kernel
theorem d_M_place_1 : decode b_M_place 1 = .ok (.iload_n 1, 1) := by decide +kernel
theorem d_M_place_2 : decode b_M_place 2 = .ok (.iconst (-1), 1) := by decide +kernel
theorem d_M_place_3 : decode b_M_place 3 = .ok (.if_icmp .eq 11, 3) := by decide +kernel
theorem d_M_place_6 : decode b_M_place 6 = .ok (.aload_n 0, 1) := by decide +kernel
theorem d_M_place_7 : decode b_M_place 7 = .ok (.iload_n 1, 1) := by decide +kernel
theorem d_M_place_8 : decode b_M_place 8 = .ok (.invokevirtual 72, 3) := by decide +kernel
theorem d_M_place_11 : decode b_M_place 11 = .ok (.ifCond .eq 7, 3) := by decide +kernel
theorem d_M_place_14 : decode b_M_place 14 = .ok (.iconst 1, 1) := by decide +kernel
theorem d_M_place_15 : decode b_M_place 15 = .ok (.goto 4, 3) := by decide +kernel
theorem d_M_place_18 : decode b_M_place 18 = .ok (.iconst 0, 1) := by decide +kernel
theorem d_M_place_19 : decode b_M_place 19 = .ok (.aload_n 0, 1) := by decide +kernel
theorem d_M_place_20 : decode b_M_place 20 = .ok (.getfield 66, 3) := by decide +kernel
theorem d_M_place_23 : decode b_M_place 23 = .ok (.bipush 16, 2) := by decide +kernel
theorem d_M_place_25 : decode b_M_place 25 = .ok (.if_icmp .ge 7, 3) := by decide +kernel
theorem d_M_place_28 : decode b_M_place 28 = .ok (.iconst 1, 1) := by decide +kernel
theorem d_M_place_29 : decode b_M_place 29 = .ok (.goto 4, 3) := by decide +kernel
theorem d_M_place_32 : decode b_M_place 32 = .ok (.iconst 0, 1) := by decide +kernel
theorem d_M_place_33 : decode b_M_place 33 = .ok (.iconst 1, 1) := by decide +kernel
theorem d_M_place_34 : decode b_M_place 34 = .ok (.invokevirtual 76, 3) := by decide +kernel
theorem d_M_place_37 : decode b_M_place 37 = .ok (.ifCond .ne 5, 3) := by decide +kernel
theorem d_M_place_40 : decode b_M_place 40 = .ok (.iconst 0, 1) := by decide +kernel
theorem d_M_place_41 : decode b_M_place 41 = .ok (.ireturn, 1) := by decide +kernel
theorem d_M_place_42 : decode b_M_place 42 = .ok (.aload_n 0, 1) := by decide +kernel
theorem d_M_place_43 : decode b_M_place 43 = .ok (.getfield 7, 3) := by decide +kernel
theorem d_M_place_46 : decode b_M_place 46 = .ok (.aload_n 0, 1) := by decide +kernel
theorem d_M_place_47 : decode b_M_place 47 = .ok (.getfield 66, 3) := by decide +kernel
theorem d_M_place_50 : decode b_M_place 50 = .ok (.iload_n 1, 1) := by decide +kernel
theorem d_M_place_51 : decode b_M_place 51 = .ok (.iastore, 1) := by decide +kernel
theorem d_M_place_52 : decode b_M_place 52 = .ok (.aload_n 0, 1) := by decide +kernel
theorem d_M_place_53 : decode b_M_place 53 = .ok (.dup, 1) := by decide +kernel
theorem d_M_place_54 : decode b_M_place 54 = .ok (.getfield 66, 3) := by decide +kernel
theorem d_M_place_57 : decode b_M_place 57 = .ok (.iconst 1, 1) := by decide +kernel
theorem d_M_place_58 : decode b_M_place 58 = .ok (.iadd, 1) := by decide +kernel
theorem d_M_place_59 : decode b_M_place 59 = .ok (.putfield 66, 3) := by decide +kernel
theorem d_M_place_62 : decode b_M_place 62 = .ok (.aload_n 0, 1) := by decide +kernel
theorem d_M_place_63 : decode b_M_place 63 = .ok (.getfield 66, 3) := by decide +kernel
theorem d_M_place_66 : decode b_M_place 66 = .ok (.iconst 1, 1) := by decide +kernel
theorem d_M_place_67 : decode b_M_place 67 = .ok (.isub, 1) := by decide +kernel
theorem d_M_place_68 : decode b_M_place 68 = .ok (.ireturn, 1) := by decide +kernel
theorem d_M_shape_0 : decode b_M_shape 0 = .ok (.aload_n 0, 1) := by decide +kernel
theorem d_M_shape_1 : decode b_M_shape 1 = .ok (.aload_n 0, 1) := by decide +kernel
theorem d_M_shape_2 : decode b_M_shape 2 = .ok (.iload_n 1, 1) := by decide +kernel
theorem d_M_shape_3 : decode b_M_shape 3 = .ok (.invokevirtual 72, 3) := by decide +kernel
theorem d_M_shape_6 : decode b_M_shape 6 = .ok (.iload_n 2, 1) := by decide +kernel
theorem d_M_shape_7 : decode b_M_shape 7 = .ok (.invokestatic 80, 3) := by decide +kernel
theorem d_M_shape_10 : decode b_M_shape 10 = .ok (.ifCond .eq 19, 3) := by decide +kernel
theorem d_M_shape_13 : decode b_M_shape 13 = .ok (.iload_n 3, 1) := by decide +kernel
theorem d_M_shape_14 : decode b_M_shape 14 = .ok (.invokestatic 80, 3) := by decide +kernel
theorem d_M_shape_17 : decode b_M_shape 17 = .ok (.ifCond .eq 12, 3) := by decide +kernel
theorem d_M_shape_20 : decode b_M_shape 20 = .ok (.iload_n 2, 1) := by decide +kernel
theorem d_M_shape_21 : decode b_M_shape 21 = .ok (.iload_n 3, 1) := by decide +kernel
theorem d_M_shape_22 : decode b_M_shape 22 = .ok (.if_icmp .gt 7, 3) := by decide +kernel
theorem d_M_shape_25 : decode b_M_shape 25 = .ok (.iconst 1, 1) := by decide +kernel
theorem d_M_shape_26 : decode b_M_shape 26 = .ok (.goto 4, 3) := by decide +kernel
theorem d_M_shape_29 : decode b_M_shape 29 = .ok (.iconst 0, 1) := by decide +kernel
theorem d_M_shape_30 : decode b_M_shape 30 = .ok (.aload_n 0, 1) := by decide +kernel
theorem d_M_shape_31 : decode b_M_shape 31 = .ok (.getfield 69, 3) := by decide +kernel
theorem d_M_shape_34 : decode b_M_shape 34 = .ok (.bipush 32, 2) := by decide +kernel
theorem d_M_shape_36 : decode b_M_shape 36 = .ok (.if_icmp .ge 7, 3) := by decide +kernel
theorem d_M_shape_39 : decode b_M_shape 39 = .ok (.iconst 1, 1) := by decide +kernel
theorem d_M_shape_40 : decode b_M_shape 40 = .ok (.goto 4, 3) := by decide +kernel
theorem d_M_shape_43 : decode b_M_shape 43 = .ok (.iconst 0, 1) := by decide +kernel
theorem d_M_shape_44 : decode b_M_shape 44 = .ok (.invokevirtual 76, 3) := by decide +kernel
theorem d_M_shape_47 : decode b_M_shape 47 = .ok (.ifCond .ne 5, 3) := by decide +kernel
theorem d_M_shape_50 : decode b_M_shape 50 = .ok (.iconst 0, 1) := by decide +kernel
theorem d_M_shape_51 : decode b_M_shape 51 = .ok (.ireturn, 1) := by decide +kernel
theorem d_M_shape_52 : decode b_M_shape 52 = .ok (.aload_n 0, 1) := by decide +kernel
theorem d_M_shape_53 : decode b_M_shape 53 = .ok (.getfield 13, 3) := by decide +kernel
theorem d_M_shape_56 : decode b_M_shape 56 = .ok (.aload_n 0, 1) := by decide +kernel
theorem d_M_shape_57 : decode b_M_shape 57 = .ok (.getfield 69, 3) := by decide +kernel
theorem d_M_shape_60 : decode b_M_shape 60 = .ok (.iload_n 1, 1) := by decide +kernel
theorem d_M_shape_61 : decode b_M_shape 61 = .ok (.iastore, 1) := by decide +kernel
theorem d_M_shape_62 : decode b_M_shape 62 = .ok (.aload_n 0, 1) := by decide +kernel
theorem d_M_shape_63 : decode b_M_shape 63 = .ok (.getfield 16, 3) := by decide +kernel
theorem d_M_shape_66 : decode b_M_shape 66 = .ok (.aload_n 0, 1) := by decide +kernel
theorem d_M_shape_67 : decode b_M_shape 67 = .ok (.getfield 69, 3) := by decide +kernel
theorem d_M_shape_70 : decode b_M_shape 70 = .ok (.iload_n 2, 1) := by decide +kernel
theorem d_M_shape_71 : decode b_M_shape 71 = .ok (.iastore, 1) := by decide +kernel
theorem d_M_shape_72 : decode b_M_shape 72 = .ok (.aload_n 0, 1) := by decide +kernel
theorem d_M_shape_73 : decode b_M_shape 73 = .ok (.getfield 19, 3) := by decide +kernel
theorem d_M_shape_76 : decode b_M_shape 76 = .ok (.aload_n 0, 1) := by decide +kernel
theorem d_M_shape_77 : decode b_M_shape 77 = .ok (.getfield 69, 3) := by decide +kernel
theorem d_M_shape_80 : decode b_M_shape 80 = .ok (.iload_n 3, 1) := by decide +kernel
theorem d_M_shape_81 : decode b_M_shape 81 = .ok (.iastore, 1) := by decide +kernel
theorem d_M_shape_82 : decode b_M_shape 82 = .ok (.aload_n 0, 1) := by decide +kernel
theorem d_M_shape_83 : decode b_M_shape 83 = .ok (.getfield 34, 3) := by decide +kernel
theorem d_M_shape_86 : decode b_M_shape 86 = .ok (.aload_n 0, 1) := by decide +kernel
theorem d_M_shape_87 : decode b_M_shape 87 = .ok (.getfield 69, 3) := by decide +kernel
theorem d_M_shape_90 : decode b_M_shape 90 = .ok (.iconst (-1), 1) := by decide +kernel
theorem d_M_shape_91 : decode b_M_shape 91 = .ok (.iastore, 1) := by decide +kernel
theorem d_M_shape_92 : decode b_M_shape 92 = .ok (.aload_n 0, 1) := by decide +kernel
theorem d_M_shape_93 : decode b_M_shape 93 = .ok (.dup, 1) := by decide +kernel
theorem d_M_shape_94 : decode b_M_shape 94 = .ok (.getfield 69, 3) := by decide +kernel
theorem d_M_shape_97 : decode b_M_shape 97 = .ok (.iconst 1, 1) := by decide +kernel
theorem d_M_shape_98 : decode b_M_shape 98 = .ok (.iadd, 1) := by decide +kernel
theorem d_M_shape_99 : decode b_M_shape 99 = .ok (.putfield 69, 3) := by decide +kernel
theorem d_M_shape_102 : decode b_M_shape 102 = .ok (.aload_n 0, 1) := by decide +kernel
theorem d_M_shape_103 : decode b_M_shape 103 = .ok (.getfield 69, 3) := by decide +kernel
theorem d_M_shape_106 : decode b_M_shape 106 = .ok (.iconst 1, 1) := by decide +kernel
theorem d_M_shape_107 : decode b_M_shape 107 = .ok (.isub, 1) := by decide +kernel
theorem d_M_shape_108 : decode b_M_shape 108 = .ok (.ireturn, 1) := by decide +kernel
theorem d_M_corner_0 : decode b_M_corner 0 = .ok (.aload_n 0, 1) := by decide +kernel
theorem d_M_corner_1 : decode b_M_corner 1 = .ok (.iload_n 1, 1) := by decide +kernel
theorem d_M_corner_2 : decode b_M_corner 2 = .ok (.invokevirtual 83, 3) := by decide +kernel
theorem d_M_corner_5 : decode b_M_corner 5 = .ok (.istore 4, 2) := by decide +kernel
theorem d_M_corner_7 : decode b_M_corner 7 = .ok (.aload_n 0, 1) := by decide +kernel
theorem d_M_corner_8 : decode b_M_corner 8 = .ok (.iload 4, 2) := by decide +kernel
theorem d_M_corner_10 : decode b_M_corner 10 = .ok (.iload_n 2, 1) := by decide +kernel
theorem d_M_corner_11 : decode b_M_corner 11 = .ok (.iload_n 3, 1) := by decide +kernel
theorem d_M_corner_12 : decode b_M_corner 12 = .ok (.invokestatic 86, 3) := by decide +kernel
theorem d_M_corner_15 : decode b_M_corner 15 = .ok (.iload 4, 2) := by decide +kernel
theorem d_M_corner_17 : decode b_M_corner 17 = .ok (.ifCond .eq 27, 3) := by decide +kernel
theorem d_M_corner_20 : decode b_M_corner 20 = .ok (.aload_n 0, 1) := by decide +kernel
theorem d_M_corner_21 : decode b_M_corner 21 = .ok (.getfield 31, 3) := by decide +kernel
theorem d_M_corner_24 : decode b_M_corner 24 = .ok (.iload_n 1, 1) := by decide +kernel
theorem d_M_corner_25 : decode b_M_corner 25 = .ok (.iaload, 1) := by decide +kernel
theorem d_M_corner_26 : decode b_M_corner 26 = .ok (.ifCond .ne 18, 3) := by decide +kernel
theorem d_M_corner_29 : decode b_M_corner 29 = .ok (.aload_n 0, 1) := by decide +kernel
theorem d_M_corner_30 : decode b_M_corner 30 = .ok (.getfield 22, 3) := by decide +kernel
theorem d_M_corner_33 : decode b_M_corner 33 = .ok (.iload_n 1, 1) := by decide +kernel
theorem d_M_corner_34 : decode b_M_corner 34 = .ok (.iaload, 1) := by decide +kernel
theorem d_M_corner_35 : decode b_M_corner 35 = .ok (.bipush 12, 2) := by decide +kernel
theorem d_M_corner_37 : decode b_M_corner 37 = .ok (.if_icmp .ge 7, 3) := by decide +kernel
theorem d_M_corner_40 : decode b_M_corner 40 = .ok (.iconst 1, 1) := by decide +kernel
theorem d_M_corner_41 : decode b_M_corner 41 = .ok (.goto 4, 3) := by decide +kernel
theorem d_M_corner_44 : decode b_M_corner 44 = .ok (.iconst 0, 1) := by decide +kernel
theorem d_M_corner_45 : decode b_M_corner 45 = .ok (.invokevirtual 76, 3) := by decide +kernel
theorem d_M_corner_48 : decode b_M_corner 48 = .ok (.ifCond .ne 5, 3) := by decide +kernel
theorem d_M_corner_51 : decode b_M_corner 51 = .ok (.iconst 0, 1) := by decide +kernel
theorem d_M_corner_52 : decode b_M_corner 52 = .ok (.ireturn, 1) := by decide +kernel
theorem d_M_corner_53 : decode b_M_corner 53 = .ok (.aload_n 0, 1) := by decide +kernel
theorem d_M_corner_54 : decode b_M_corner 54 = .ok (.getfield 25, 3) := by decide +kernel
theorem d_M_corner_57 : decode b_M_corner 57 = .ok (.bipush 12, 2) := by decide +kernel
theorem d_M_corner_59 : decode b_M_corner 59 = .ok (.iload_n 1, 1) := by decide +kernel
theorem d_M_corner_60 : decode b_M_corner 60 = .ok (.imul, 1) := by decide +kernel
theorem d_M_corner_61 : decode b_M_corner 61 = .ok (.aload_n 0, 1) := by decide +kernel
theorem d_M_corner_62 : decode b_M_corner 62 = .ok (.getfield 22, 3) := by decide +kernel
theorem d_M_corner_65 : decode b_M_corner 65 = .ok (.iload_n 1, 1) := by decide +kernel
theorem d_M_corner_66 : decode b_M_corner 66 = .ok (.iaload, 1) := by decide +kernel
theorem d_M_corner_67 : decode b_M_corner 67 = .ok (.iadd, 1) := by decide +kernel
theorem d_M_corner_68 : decode b_M_corner 68 = .ok (.iload_n 2, 1) := by decide +kernel
theorem d_M_corner_69 : decode b_M_corner 69 = .ok (.iastore, 1) := by decide +kernel
theorem d_M_corner_70 : decode b_M_corner 70 = .ok (.aload_n 0, 1) := by decide +kernel
theorem d_M_corner_71 : decode b_M_corner 71 = .ok (.getfield 28, 3) := by decide +kernel
theorem d_M_corner_74 : decode b_M_corner 74 = .ok (.bipush 12, 2) := by decide +kernel
theorem d_M_corner_76 : decode b_M_corner 76 = .ok (.iload_n 1, 1) := by decide +kernel
theorem d_M_corner_77 : decode b_M_corner 77 = .ok (.imul, 1) := by decide +kernel
theorem d_M_corner_78 : decode b_M_corner 78 = .ok (.aload_n 0, 1) := by decide +kernel
theorem d_M_corner_79 : decode b_M_corner 79 = .ok (.getfield 22, 3) := by decide +kernel
theorem d_M_corner_82 : decode b_M_corner 82 = .ok (.iload_n 1, 1) := by decide +kernel
theorem d_M_corner_83 : decode b_M_corner 83 = .ok (.iaload, 1) := by decide +kernel
theorem d_M_corner_84 : decode b_M_corner 84 = .ok (.iadd, 1) := by decide +kernel
theorem d_M_corner_85 : decode b_M_corner 85 = .ok (.iload_n 3, 1) := by decide +kernel
theorem d_M_corner_86 : decode b_M_corner 86 = .ok (.iastore, 1) := by decide +kernel
theorem d_M_corner_87 : decode b_M_corner 87 = .ok (.aload_n 0, 1) := by decide +kernel
theorem d_M_corner_88 : decode b_M_corner 88 = .ok (.getfield 22, 3) := by decide +kernel
theorem d_M_corner_91 : decode b_M_corner 91 = .ok (.iload_n 1, 1) := by decide +kernel
theorem d_M_corner_92 : decode b_M_corner 92 = .ok (.dup2, 1) := by decide +kernel
theorem d_M_corner_93 : decode b_M_corner 93 = .ok (.iaload, 1) := by decide +kernel
theorem d_M_corner_94 : decode b_M_corner 94 = .ok (.iconst 1, 1) := by decide +kernel
theorem d_M_corner_95 : decode b_M_corner 95 = .ok (.iadd, 1) := by decide +kernel
theorem d_M_corner_96 : decode b_M_corner 96 = .ok (.iastore, 1) := by decide +kernel
theorem d_M_corner_97 : decode b_M_corner 97 = .ok (.aload_n 0, 1) := by decide +kernel
theorem d_M_corner_98 : decode b_M_corner 98 = .ok (.getfield 22, 3) := by decide +kernel
theorem d_M_corner_101 : decode b_M_corner 101 = .ok (.iload_n 1, 1) := by decide +kernel
theorem d_M_corner_102 : decode b_M_corner 102 = .ok (.iaload, 1) := by decide +kernel
theorem d_M_corner_103 : decode b_M_corner 103 = .ok (.ireturn, 1) := by decide +kernel
theorem d_M_close_0 : decode b_M_close 0 = .ok (.aload_n 0, 1) := by decide +kernel
theorem d_M_close_1 : decode b_M_close 1 = .ok (.aload_n 0, 1) := by decide +kernel
theorem d_M_close_2 : decode b_M_close 2 = .ok (.iload_n 1, 1) := by decide +kernel
theorem d_M_close_3 : decode b_M_close 3 = .ok (.invokevirtual 83, 3) := by decide +kernel
theorem d_M_close_6 : decode b_M_close 6 = .ok (.iconst 1, 1) := by decide +kernel
theorem d_M_close_7 : decode b_M_close 7 = .ok (.iconst 1, 1) := by decide +kernel
theorem d_M_close_8 : decode b_M_close 8 = .ok (.invokevirtual 76, 3) := by decide +kernel
theorem d_M_close_11 : decode b_M_close 11 = .ok (.ifCond .ne 5, 3) := by decide +kernel
theorem d_M_close_14 : decode b_M_close 14 = .ok (.iconst 0, 1) := by decide +kernel
theorem d_M_close_15 : decode b_M_close 15 = .ok (.ireturn, 1) := by decide +kernel
theorem d_M_close_16 : decode b_M_close 16 = .ok (.aload_n 0, 1) := by decide +kernel
theorem d_M_close_17 : decode b_M_close 17 = .ok (.getfield 31, 3) := by decide +kernel
theorem d_M_close_20 : decode b_M_close 20 = .ok (.iload_n 1, 1) := by decide +kernel
theorem d_M_close_21 : decode b_M_close 21 = .ok (.iaload, 1) := by decide +kernel
theorem d_M_close_22 : decode b_M_close 22 = .ok (.ifCond .gt 11, 3) := by decide +kernel
theorem d_M_close_25 : decode b_M_close 25 = .ok (.aload_n 0, 1) := by decide +kernel
theorem d_M_close_26 : decode b_M_close 26 = .ok (.iload_n 1, 1) := by decide +kernel
theorem d_M_close_27 : decode b_M_close 27 = .ok (.invokevirtual 113, 3) := by decide +kernel
theorem d_M_close_30 : decode b_M_close 30 = .ok (.ifCond .ne 5, 3) := by decide +kernel
theorem d_M_close_33 : decode b_M_close 33 = .ok (.iconst 0, 1) := by decide +kernel
theorem d_M_close_34 : decode b_M_close 34 = .ok (.ireturn, 1) := by decide +kernel
theorem d_M_close_35 : decode b_M_close 35 = .ok (.aload_n 0, 1) := by decide +kernel
theorem d_M_close_36 : decode b_M_close 36 = .ok (.dup, 1) := by decide +kernel
theorem d_M_close_37 : decode b_M_close 37 = .ok (.getfield 116, 3) := by decide +kernel
theorem d_M_close_40 : decode b_M_close 40 = .ok (.iconst 1, 1) := by decide +kernel
theorem d_M_close_41 : decode b_M_close 41 = .ok (.iadd, 1) := by decide +kernel
theorem d_M_close_42 : decode b_M_close 42 = .ok (.putfield 116, 3) := by decide +kernel
theorem d_M_close_45 : decode b_M_close 45 = .ok (.aload_n 0, 1) := by decide +kernel
theorem d_M_close_46 : decode b_M_close 46 = .ok (.getfield 31, 3) := by decide +kernel
theorem d_M_close_49 : decode b_M_close 49 = .ok (.iload_n 1, 1) := by decide +kernel
theorem d_M_close_50 : decode b_M_close 50 = .ok (.aload_n 0, 1) := by decide +kernel
theorem d_M_close_51 : decode b_M_close 51 = .ok (.getfield 116, 3) := by decide +kernel
theorem d_M_close_54 : decode b_M_close 54 = .ok (.iastore, 1) := by decide +kernel
theorem d_M_close_55 : decode b_M_close 55 = .ok (.iconst 1, 1) := by decide +kernel
theorem d_M_close_56 : decode b_M_close 56 = .ok (.ireturn, 1) := by decide +kernel
theorem d_M_unsure_0 : decode b_M_unsure 0 = .ok (.aload_n 0, 1) := by decide +kernel
theorem d_M_unsure_1 : decode b_M_unsure 1 = .ok (.aload_n 0, 1) := by decide +kernel
theorem d_M_unsure_2 : decode b_M_unsure 2 = .ok (.iload_n 1, 1) := by decide +kernel
theorem d_M_unsure_3 : decode b_M_unsure 3 = .ok (.invokevirtual 83, 3) := by decide +kernel
theorem d_M_unsure_6 : decode b_M_unsure 6 = .ok (.ifCond .eq 15, 3) := by decide +kernel
theorem d_M_unsure_9 : decode b_M_unsure 9 = .ok (.aload_n 0, 1) := by decide +kernel
theorem d_M_unsure_10 : decode b_M_unsure 10 = .ok (.iload_n 2, 1) := by decide +kernel
theorem d_M_unsure_11 : decode b_M_unsure 11 = .ok (.invokevirtual 83, 3) := by decide +kernel
theorem d_M_unsure_14 : decode b_M_unsure 14 = .ok (.ifCond .eq 7, 3) := by decide +kernel
theorem d_M_unsure_17 : decode b_M_unsure 17 = .ok (.iconst 1, 1) := by decide +kernel
theorem d_M_unsure_18 : decode b_M_unsure 18 = .ok (.goto 4, 3) := by decide +kernel
theorem d_M_unsure_21 : decode b_M_unsure 21 = .ok (.iconst 0, 1) := by decide +kernel
theorem d_M_unsure_22 : decode b_M_unsure 22 = .ok (.iconst 1, 1) := by decide +kernel
theorem d_M_unsure_23 : decode b_M_unsure 23 = .ok (.iconst 1, 1) := by decide +kernel
theorem d_M_unsure_24 : decode b_M_unsure 24 = .ok (.invokevirtual 76, 3) := by decide +kernel
theorem d_M_unsure_27 : decode b_M_unsure 27 = .ok (.ifCond .ne 5, 3) := by decide +kernel
theorem d_M_unsure_30 : decode b_M_unsure 30 = .ok (.iconst 0, 1) := by decide +kernel
theorem d_M_unsure_31 : decode b_M_unsure 31 = .ok (.ireturn, 1) := by decide +kernel
theorem d_M_unsure_32 : decode b_M_unsure 32 = .ok (.iload_n 1, 1) := by decide +kernel
theorem d_M_unsure_33 : decode b_M_unsure 33 = .ok (.iload_n 2, 1) := by decide +kernel
theorem d_M_unsure_34 : decode b_M_unsure 34 = .ok (.if_icmp .eq 40, 3) := by decide +kernel
theorem d_M_unsure_37 : decode b_M_unsure 37 = .ok (.aload_n 0, 1) := by decide +kernel
theorem d_M_unsure_38 : decode b_M_unsure 38 = .ok (.getfield 31, 3) := by decide +kernel
theorem d_M_unsure_41 : decode b_M_unsure 41 = .ok (.iload_n 1, 1) := by decide +kernel
theorem d_M_unsure_42 : decode b_M_unsure 42 = .ok (.iaload, 1) := by decide +kernel
theorem d_M_unsure_43 : decode b_M_unsure 43 = .ok (.ifCond .le 31, 3) := by decide +kernel
theorem d_M_unsure_46 : decode b_M_unsure 46 = .ok (.aload_n 0, 1) := by decide +kernel
theorem d_M_unsure_47 : decode b_M_unsure 47 = .ok (.getfield 31, 3) := by decide +kernel
theorem d_M_unsure_50 : decode b_M_unsure 50 = .ok (.iload_n 2, 1) := by decide +kernel
theorem d_M_unsure_51 : decode b_M_unsure 51 = .ok (.iaload, 1) := by decide +kernel
theorem d_M_unsure_52 : decode b_M_unsure 52 = .ok (.ifCond .le 22, 3) := by decide +kernel
theorem d_M_unsure_55 : decode b_M_unsure 55 = .ok (.aload_n 0, 1) := by decide +kernel
theorem d_M_unsure_56 : decode b_M_unsure 56 = .ok (.getfield 13, 3) := by decide +kernel
theorem d_M_unsure_59 : decode b_M_unsure 59 = .ok (.iload_n 1, 1) := by decide +kernel
theorem d_M_unsure_60 : decode b_M_unsure 60 = .ok (.iaload, 1) := by decide +kernel
theorem d_M_unsure_61 : decode b_M_unsure 61 = .ok (.aload_n 0, 1) := by decide +kernel
theorem d_M_unsure_62 : decode b_M_unsure 62 = .ok (.getfield 13, 3) := by decide +kernel
theorem d_M_unsure_65 : decode b_M_unsure 65 = .ok (.iload_n 2, 1) := by decide +kernel
theorem d_M_unsure_66 : decode b_M_unsure 66 = .ok (.iaload, 1) := by decide +kernel
theorem d_M_unsure_67 : decode b_M_unsure 67 = .ok (.if_icmp .ne 7, 3) := by decide +kernel
theorem d_M_unsure_70 : decode b_M_unsure 70 = .ok (.iconst 1, 1) := by decide +kernel
theorem d_M_unsure_71 : decode b_M_unsure 71 = .ok (.goto 4, 3) := by decide +kernel
theorem d_M_unsure_74 : decode b_M_unsure 74 = .ok (.iconst 0, 1) := by decide +kernel
theorem d_M_unsure_75 : decode b_M_unsure 75 = .ok (.istore_n 3, 1) := by decide +kernel
theorem d_M_unsure_76 : decode b_M_unsure 76 = .ok (.iload_n 3, 1) := by decide +kernel
theorem d_M_unsure_77 : decode b_M_unsure 77 = .ok (.ifCond .eq 27, 3) := by decide +kernel
theorem d_M_unsure_80 : decode b_M_unsure 80 = .ok (.aload_n 0, 1) := by decide +kernel
theorem d_M_unsure_81 : decode b_M_unsure 81 = .ok (.iload_n 1, 1) := by decide +kernel
theorem d_M_unsure_82 : decode b_M_unsure 82 = .ok (.invokevirtual 119, 3) := by decide +kernel
theorem d_M_unsure_85 : decode b_M_unsure 85 = .ok (.aload_n 0, 1) := by decide +kernel
theorem d_M_unsure_86 : decode b_M_unsure 86 = .ok (.iload_n 2, 1) := by decide +kernel
theorem d_M_unsure_87 : decode b_M_unsure 87 = .ok (.invokevirtual 119, 3) := by decide +kernel
theorem d_M_unsure_90 : decode b_M_unsure 90 = .ok (.aload_n 0, 1) := by decide +kernel
theorem d_M_unsure_91 : decode b_M_unsure 91 = .ok (.getfield 34, 3) := by decide +kernel
theorem d_M_unsure_94 : decode b_M_unsure 94 = .ok (.iload_n 1, 1) := by decide +kernel
theorem d_M_unsure_95 : decode b_M_unsure 95 = .ok (.iload_n 2, 1) := by decide +kernel
theorem d_M_unsure_96 : decode b_M_unsure 96 = .ok (.iastore, 1) := by decide +kernel
theorem d_M_unsure_97 : decode b_M_unsure 97 = .ok (.aload_n 0, 1) := by decide +kernel
theorem d_M_unsure_98 : decode b_M_unsure 98 = .ok (.getfield 34, 3) := by decide +kernel
theorem d_M_unsure_101 : decode b_M_unsure 101 = .ok (.iload_n 2, 1) := by decide +kernel
theorem d_M_unsure_102 : decode b_M_unsure 102 = .ok (.iload_n 1, 1) := by decide +kernel
theorem d_M_unsure_103 : decode b_M_unsure 103 = .ok (.iastore, 1) := by decide +kernel
theorem d_M_unsure_104 : decode b_M_unsure 104 = .ok (.iload_n 3, 1) := by decide +kernel
theorem d_M_unsure_105 : decode b_M_unsure 105 = .ok (.ireturn, 1) := by decide +kernel
theorem d_M_force_0 : decode b_M_force 0 = .ok (.aload_n 0, 1) := by decide +kernel
theorem d_M_force_1 : decode b_M_force 1 = .ok (.aload_n 0, 1) := by decide +kernel
theorem d_M_force_2 : decode b_M_force 2 = .ok (.iload_n 1, 1) := by decide +kernel
theorem d_M_force_3 : decode b_M_force 3 = .ok (.invokevirtual 72, 3) := by decide +kernel
theorem d_M_force_6 : decode b_M_force 6 = .ok (.iload_n 2, 1) := by decide +kernel
theorem d_M_force_7 : decode b_M_force 7 = .ok (.invokestatic 80, 3) := by decide +kernel
theorem d_M_force_10 : decode b_M_force 10 = .ok (.iconst 1, 1) := by decide +kernel
theorem d_M_force_11 : decode b_M_force 11 = .ok (.invokevirtual 76, 3) := by decide +kernel
theorem d_M_force_14 : decode b_M_force 14 = .ok (.ifCond .eq 12, 3) := by decide +kernel
theorem d_M_force_17 : decode b_M_force 17 = .ok (.aload_n 0, 1) := by decide +kernel
theorem d_M_force_18 : decode b_M_force 18 = .ok (.iload_n 1, 1) := by decide +kernel
theorem d_M_force_19 : decode b_M_force 19 = .ok (.iload_n 2, 1) := by decide +kernel
theorem d_M_force_20 : decode b_M_force 20 = .ok (.invokevirtual 123, 3) := by decide +kernel
theorem d_M_force_23 : decode b_M_force 23 = .ok (.goto 4, 3) := by decide +kernel
theorem d_M_force_26 : decode b_M_force 26 = .ok (.iconst 0, 1) := by decide +kernel
theorem d_M_force_27 : decode b_M_force 27 = .ok (.ireturn, 1) := by decide +kernel
theorem d_M_inside_0 : decode b_M_inside 0 = .ok (.aload_n 0, 1) := by decide +kernel
theorem d_M_inside_1 : decode b_M_inside 1 = .ok (.iload 4, 2) := by decide +kernel
theorem d_M_inside_3 : decode b_M_inside 3 = .ok (.ifCond .lt 7, 3) := by decide +kernel
theorem d_M_inside_6 : decode b_M_inside 6 = .ok (.iconst 1, 1) := by decide +kernel
theorem d_M_inside_7 : decode b_M_inside 7 = .ok (.goto 4, 3) := by decide +kernel
theorem d_M_inside_10 : decode b_M_inside 10 = .ok (.iconst 0, 1) := by decide +kernel
theorem d_M_inside_11 : decode b_M_inside 11 = .ok (.iload_n 1, 1) := by decide +kernel
theorem d_M_inside_12 : decode b_M_inside 12 = .ok (.iload_n 2, 1) := by decide +kernel
theorem d_M_inside_13 : decode b_M_inside 13 = .ok (.invokestatic 86, 3) := by decide +kernel
theorem d_M_inside_16 : decode b_M_inside 16 = .ok (.ifCond .eq 14, 3) := by decide +kernel
theorem d_M_inside_19 : decode b_M_inside 19 = .ok (.iload_n 3, 1) := by decide +kernel
theorem d_M_inside_20 : decode b_M_inside 20 = .ok (.invokestatic 80, 3) := by decide +kernel
theorem d_M_inside_23 : decode b_M_inside 23 = .ok (.ifCond .eq 7, 3) := by decide +kernel
theorem d_M_inside_26 : decode b_M_inside 26 = .ok (.iconst 1, 1) := by decide +kernel
theorem d_M_inside_27 : decode b_M_inside 27 = .ok (.goto 4, 3) := by decide +kernel
theorem d_M_inside_30 : decode b_M_inside 30 = .ok (.iconst 0, 1) := by decide +kernel
theorem d_M_inside_31 : decode b_M_inside 31 = .ok (.iconst 1, 1) := by decide +kernel
theorem d_M_inside_32 : decode b_M_inside 32 = .ok (.invokevirtual 76, 3) := by decide +kernel
theorem d_M_inside_35 : decode b_M_inside 35 = .ok (.ifCond .ne 5, 3) := by decide +kernel
theorem d_M_inside_38 : decode b_M_inside 38 = .ok (.iconst 0, 1) := by decide +kernel
theorem d_M_inside_39 : decode b_M_inside 39 = .ok (.ireturn, 1) := by decide +kernel
theorem d_M_inside_40 : decode b_M_inside 40 = .ok (.iconst 0, 1) := by decide +kernel
theorem d_M_inside_41 : decode b_M_inside 41 = .ok (.istore 5, 2) := by decide +kernel
theorem d_M_inside_43 : decode b_M_inside 43 = .ok (.iconst 0, 1) := by decide +kernel
theorem d_M_inside_44 : decode b_M_inside 44 = .ok (.istore 6, 2) := by decide +kernel
theorem d_M_inside_46 : decode b_M_inside 46 = .ok (.iload 6, 2) := by decide +kernel
theorem d_M_inside_48 : decode b_M_inside 48 = .ok (.aload_n 0, 1) := by decide +kernel
theorem d_M_inside_49 : decode b_M_inside 49 = .ok (.getfield 66, 3) := by decide +kernel
theorem d_M_inside_52 : decode b_M_inside 52 = .ok (.if_icmp .ge 48, 3) := by decide +kernel
theorem d_M_inside_55 : decode b_M_inside 55 = .ok (.aload_n 0, 1) := by decide +kernel
theorem d_M_inside_56 : decode b_M_inside 56 = .ok (.iload 6, 2) := by decide +kernel
theorem d_M_inside_58 : decode b_M_inside 58 = .ok (.iload_n 3, 1) := by decide +kernel
theorem d_M_inside_59 : decode b_M_inside 59 = .ok (.invokevirtual 123, 3) := by decide +kernel
theorem d_M_inside_62 : decode b_M_inside 62 = .ok (.istore 7, 2) := by decide +kernel
theorem d_M_inside_64 : decode b_M_inside 64 = .ok (.iload 7, 2) := by decide +kernel
theorem d_M_inside_66 : decode b_M_inside 66 = .ok (.iconst (-1), 1) := by decide +kernel
theorem d_M_inside_67 : decode b_M_inside 67 = .ok (.if_icmp .eq 27, 3) := by decide +kernel
theorem d_M_inside_70 : decode b_M_inside 70 = .ok (.aload_n 0, 1) := by decide +kernel
theorem d_M_inside_71 : decode b_M_inside 71 = .ok (.iload 7, 2) := by decide +kernel
theorem d_M_inside_73 : decode b_M_inside 73 = .ok (.iload_n 1, 1) := by decide +kernel
theorem d_M_inside_74 : decode b_M_inside 74 = .ok (.iload_n 2, 1) := by decide +kernel
theorem d_M_inside_75 : decode b_M_inside 75 = .ok (.invokevirtual 126, 3) := by decide +kernel
theorem d_M_inside_78 : decode b_M_inside 78 = .ok (.ifCond .eq 16, 3) := by decide +kernel
theorem d_M_inside_81 : decode b_M_inside 81 = .ok (.iload 5, 2) := by decide +kernel
theorem d_M_inside_83 : decode b_M_inside 83 = .ok (.iload 4, 2) := by decide +kernel
theorem d_M_inside_85 : decode b_M_inside 85 = .ok (.if_icmp .ne 6, 3) := by decide +kernel
theorem d_M_inside_88 : decode b_M_inside 88 = .ok (.iload 6, 2) := by decide +kernel
theorem d_M_inside_90 : decode b_M_inside 90 = .ok (.ireturn, 1) := by decide +kernel
theorem d_M_inside_91 : decode b_M_inside 91 = .ok (.iinc 5 1, 3) := by decide +kernel
theorem d_M_inside_94 : decode b_M_inside 94 = .ok (.iinc 6 1, 3) := by decide +kernel
theorem d_M_inside_97 : decode b_M_inside 97 = .ok (.goto (-51), 3) := by decide +kernel
theorem d_M_inside_100 : decode b_M_inside 100 = .ok (.iconst (-1), 1) := by decide +kernel
theorem d_M_inside_101 : decode b_M_inside 101 = .ok (.ireturn, 1) := by decide +kernel
theorem d_M_threeWay_0 : decode b_M_threeWay 0 = .ok (.aload_n 0, 1) := by decide +kernel
theorem d_M_threeWay_1 : decode b_M_threeWay 1 = .ok (.aload_n 0, 1) := by decide +kernel
theorem d_M_threeWay_2 : decode b_M_threeWay 2 = .ok (.iload_n 1, 1) := by decide +kernel
theorem d_M_threeWay_3 : decode b_M_threeWay 3 = .ok (.invokevirtual 72, 3) := by decide +kernel
theorem d_M_threeWay_6 : decode b_M_threeWay 6 = .ok (.iload_n 2, 1) := by decide +kernel
theorem d_M_threeWay_7 : decode b_M_threeWay 7 = .ok (.iload_n 3, 1) := by decide +kernel
theorem d_M_threeWay_8 : decode b_M_threeWay 8 = .ok (.invokestatic 86, 3) := by decide +kernel
theorem d_M_threeWay_11 : decode b_M_threeWay 11 = .ok (.ifCond .eq 15, 3) := by decide +kernel
theorem d_M_threeWay_14 : decode b_M_threeWay 14 = .ok (.iload 4, 2) := by decide +kernel
theorem d_M_threeWay_16 : decode b_M_threeWay 16 = .ok (.invokestatic 80, 3) := by decide +kernel
theorem d_M_threeWay_19 : decode b_M_threeWay 19 = .ok (.ifCond .eq 7, 3) := by decide +kernel
theorem d_M_threeWay_22 : decode b_M_threeWay 22 = .ok (.iconst 1, 1) := by decide +kernel
theorem d_M_threeWay_23 : decode b_M_threeWay 23 = .ok (.goto 4, 3) := by decide +kernel
theorem d_M_threeWay_26 : decode b_M_threeWay 26 = .ok (.iconst 0, 1) := by decide +kernel
theorem d_M_threeWay_27 : decode b_M_threeWay 27 = .ok (.iconst 1, 1) := by decide +kernel
theorem d_M_threeWay_28 : decode b_M_threeWay 28 = .ok (.invokevirtual 76, 3) := by decide +kernel
theorem d_M_threeWay_31 : decode b_M_threeWay 31 = .ok (.ifCond .ne 5, 3) := by decide +kernel
theorem d_M_threeWay_34 : decode b_M_threeWay 34 = .ok (.iconst 0, 1) := by decide +kernel
theorem d_M_threeWay_35 : decode b_M_threeWay 35 = .ok (.ireturn, 1) := by decide +kernel
theorem d_M_threeWay_36 : decode b_M_threeWay 36 = .ok (.aload_n 0, 1) := by decide +kernel
theorem d_M_threeWay_37 : decode b_M_threeWay 37 = .ok (.iload_n 1, 1) := by decide +kernel
theorem d_M_threeWay_38 : decode b_M_threeWay 38 = .ok (.iload 4, 2) := by decide +kernel
theorem d_M_threeWay_40 : decode b_M_threeWay 40 = .ok (.invokevirtual 123, 3) := by decide +kernel
theorem d_M_threeWay_43 : decode b_M_threeWay 43 = .ok (.istore 5, 2) := by decide +kernel
theorem d_M_threeWay_45 : decode b_M_threeWay 45 = .ok (.iload 5, 2) := by decide +kernel
theorem d_M_threeWay_47 : decode b_M_threeWay 47 = .ok (.iconst (-1), 1) := by decide +kernel
theorem d_M_threeWay_48 : decode b_M_threeWay 48 = .ok (.if_icmp .ne 5, 3) := by decide +kernel
theorem d_M_threeWay_51 : decode b_M_threeWay 51 = .ok (.iconst (-1), 1) := by decide +kernel
theorem d_M_threeWay_52 : decode b_M_threeWay 52 = .ok (.ireturn, 1) := by decide +kernel
theorem d_M_threeWay_53 : decode b_M_threeWay 53 = .ok (.aload_n 0, 1) := by decide +kernel
theorem d_M_threeWay_54 : decode b_M_threeWay 54 = .ok (.iload 5, 2) := by decide +kernel
theorem d_M_threeWay_56 : decode b_M_threeWay 56 = .ok (.iload_n 2, 1) := by decide +kernel
theorem d_M_threeWay_57 : decode b_M_threeWay 57 = .ok (.iload_n 3, 1) := by decide +kernel
theorem d_M_threeWay_58 : decode b_M_threeWay 58 = .ok (.invokevirtual 126, 3) := by decide +kernel
theorem d_M_threeWay_61 : decode b_M_threeWay 61 = .ok (.ifCond .eq 7, 3) := by decide +kernel
theorem d_M_threeWay_64 : decode b_M_threeWay 64 = .ok (.iconst 1, 1) := by decide +kernel
theorem d_M_threeWay_65 : decode b_M_threeWay 65 = .ok (.goto 4, 3) := by decide +kernel
theorem d_M_threeWay_68 : decode b_M_threeWay 68 = .ok (.iconst 0, 1) := by decide +kernel
theorem d_M_threeWay_69 : decode b_M_threeWay 69 = .ok (.istore 6, 2) := by decide +kernel
theorem d_M_threeWay_71 : decode b_M_threeWay 71 = .ok (.aload_n 0, 1) := by decide +kernel
theorem d_M_threeWay_72 : decode b_M_threeWay 72 = .ok (.getfield 34, 3) := by decide +kernel
theorem d_M_threeWay_75 : decode b_M_threeWay 75 = .ok (.iload 5, 2) := by decide +kernel
theorem d_M_threeWay_77 : decode b_M_threeWay 77 = .ok (.iaload, 1) := by decide +kernel
theorem d_M_threeWay_78 : decode b_M_threeWay 78 = .ok (.iconst (-1), 1) := by decide +kernel
theorem d_M_threeWay_79 : decode b_M_threeWay 79 = .ok (.if_icmp .ne 8, 3) := by decide +kernel
theorem d_M_threeWay_82 : decode b_M_threeWay 82 = .ok (.iload 6, 2) := by decide +kernel
theorem d_M_threeWay_84 : decode b_M_threeWay 84 = .ok (.goto 24, 3) := by decide +kernel
theorem d_M_threeWay_87 : decode b_M_threeWay 87 = .ok (.aload_n 0, 1) := by decide +kernel
theorem d_M_threeWay_88 : decode b_M_threeWay 88 = .ok (.aload_n 0, 1) := by decide +kernel
theorem d_M_threeWay_89 : decode b_M_threeWay 89 = .ok (.getfield 34, 3) := by decide +kernel
theorem d_M_threeWay_92 : decode b_M_threeWay 92 = .ok (.iload 5, 2) := by decide +kernel
theorem d_M_threeWay_94 : decode b_M_threeWay 94 = .ok (.iaload, 1) := by decide +kernel
theorem d_M_threeWay_95 : decode b_M_threeWay 95 = .ok (.iload_n 2, 1) := by decide +kernel
theorem d_M_threeWay_96 : decode b_M_threeWay 96 = .ok (.iload_n 3, 1) := by decide +kernel
theorem d_M_threeWay_97 : decode b_M_threeWay 97 = .ok (.invokevirtual 126, 3) := by decide +kernel
theorem d_M_threeWay_100 : decode b_M_threeWay 100 = .ok (.ifCond .eq 7, 3) := by decide +kernel
theorem d_M_threeWay_103 : decode b_M_threeWay 103 = .ok (.iconst 1, 1) := by decide +kernel
theorem d_M_threeWay_104 : decode b_M_threeWay 104 = .ok (.goto 4, 3) := by decide +kernel
theorem d_M_threeWay_107 : decode b_M_threeWay 107 = .ok (.iconst 0, 1) := by decide +kernel
theorem d_M_threeWay_108 : decode b_M_threeWay 108 = .ok (.istore 7, 2) := by decide +kernel
theorem d_M_threeWay_110 : decode b_M_threeWay 110 = .ok (.iload 6, 2) := by decide +kernel
theorem d_M_threeWay_112 : decode b_M_threeWay 112 = .ok (.iload 7, 2) := by decide +kernel
theorem d_M_threeWay_114 : decode b_M_threeWay 114 = .ok (.iadd, 1) := by decide +kernel
theorem d_M_threeWay_115 : decode b_M_threeWay 115 = .ok (.ireturn, 1) := by decide +kernel
theorem d_M_area_0 : decode b_M_area 0 = .ok (.aload_n 0, 1) := by decide +kernel
theorem d_M_area_1 : decode b_M_area 1 = .ok (.aload_n 0, 1) := by decide +kernel
theorem d_M_area_2 : decode b_M_area 2 = .ok (.iload_n 1, 1) := by decide +kernel
theorem d_M_area_3 : decode b_M_area 3 = .ok (.invokevirtual 72, 3) := by decide +kernel
theorem d_M_area_6 : decode b_M_area 6 = .ok (.iload_n 2, 1) := by decide +kernel
theorem d_M_area_7 : decode b_M_area 7 = .ok (.invokestatic 80, 3) := by decide +kernel
theorem d_M_area_10 : decode b_M_area 10 = .ok (.iconst 1, 1) := by decide +kernel
theorem d_M_area_11 : decode b_M_area 11 = .ok (.invokevirtual 76, 3) := by decide +kernel
theorem d_M_area_14 : decode b_M_area 14 = .ok (.ifCond .ne 5, 3) := by decide +kernel
theorem d_M_area_17 : decode b_M_area 17 = .ok (.iconst 0, 1) := by decide +kernel
theorem d_M_area_18 : decode b_M_area 18 = .ok (.ireturn, 1) := by decide +kernel
theorem d_M_area_19 : decode b_M_area 19 = .ok (.aload_n 0, 1) := by decide +kernel
theorem d_M_area_20 : decode b_M_area 20 = .ok (.iload_n 1, 1) := by decide +kernel
theorem d_M_area_21 : decode b_M_area 21 = .ok (.iload_n 2, 1) := by decide +kernel
theorem d_M_area_22 : decode b_M_area 22 = .ok (.invokevirtual 123, 3) := by decide +kernel
theorem d_M_area_25 : decode b_M_area 25 = .ok (.istore_n 3, 1) := by decide +kernel
theorem d_M_area_26 : decode b_M_area 26 = .ok (.iconst 0, 1) := by decide +kernel
theorem d_M_area_27 : decode b_M_area 27 = .ok (.istore 4, 2) := by decide +kernel
theorem d_M_area_29 : decode b_M_area 29 = .ok (.iconst 0, 1) := by decide +kernel
theorem d_M_area_30 : decode b_M_area 30 = .ok (.istore 5, 2) := by decide +kernel
theorem d_M_area_32 : decode b_M_area 32 = .ok (.iload_n 3, 1) := by decide +kernel
theorem d_M_area_33 : decode b_M_area 33 = .ok (.iconst (-1), 1) := by decide +kernel
theorem d_M_area_34 : decode b_M_area 34 = .ok (.if_icmp .eq 94, 3) := by decide +kernel
theorem d_M_area_37 : decode b_M_area 37 = .ok (.iload 5, 2) := by decide +kernel
theorem d_M_area_39 : decode b_M_area 39 = .ok (.aload_n 0, 1) := by decide +kernel
theorem d_M_area_40 : decode b_M_area 40 = .ok (.getfield 22, 3) := by decide +kernel
theorem d_M_area_43 : decode b_M_area 43 = .ok (.iload_n 3, 1) := by decide +kernel
theorem d_M_area_44 : decode b_M_area 44 = .ok (.iaload, 1) := by decide +kernel
theorem d_M_area_45 : decode b_M_area 45 = .ok (.if_icmp .ge 83, 3) := by decide +kernel
theorem d_M_area_48 : decode b_M_area 48 = .ok (.bipush 12, 2) := by decide +kernel
theorem d_M_area_50 : decode b_M_area 50 = .ok (.iload_n 3, 1) := by decide +kernel
theorem d_M_area_51 : decode b_M_area 51 = .ok (.imul, 1) := by decide +kernel
theorem d_M_area_52 : decode b_M_area 52 = .ok (.istore 6, 2) := by decide +kernel
theorem d_M_area_54 : decode b_M_area 54 = .ok (.bipush 12, 2) := by decide +kernel
theorem d_M_area_56 : decode b_M_area 56 = .ok (.iload_n 3, 1) := by decide +kernel
theorem d_M_area_57 : decode b_M_area 57 = .ok (.imul, 1) := by decide +kernel
theorem d_M_area_58 : decode b_M_area 58 = .ok (.iload 5, 2) := by decide +kernel
theorem d_M_area_60 : decode b_M_area 60 = .ok (.iadd, 1) := by decide +kernel
theorem d_M_area_61 : decode b_M_area 61 = .ok (.istore 7, 2) := by decide +kernel
theorem d_M_area_63 : decode b_M_area 63 = .ok (.aload_n 0, 1) := by decide +kernel
theorem d_M_area_64 : decode b_M_area 64 = .ok (.iload_n 3, 1) := by decide +kernel
theorem d_M_area_65 : decode b_M_area 65 = .ok (.iload 5, 2) := by decide +kernel
theorem d_M_area_67 : decode b_M_area 67 = .ok (.invokevirtual 106, 3) := by decide +kernel
theorem d_M_area_70 : decode b_M_area 70 = .ok (.istore 8, 2) := by decide +kernel
theorem d_M_area_72 : decode b_M_area 72 = .ok (.iload 4, 2) := by decide +kernel
theorem d_M_area_74 : decode b_M_area 74 = .ok (.aload_n 0, 1) := by decide +kernel
theorem d_M_area_75 : decode b_M_area 75 = .ok (.getfield 25, 3) := by decide +kernel
theorem d_M_area_78 : decode b_M_area 78 = .ok (.iload 6, 2) := by decide +kernel
theorem d_M_area_80 : decode b_M_area 80 = .ok (.iaload, 1) := by decide +kernel
theorem d_M_area_81 : decode b_M_area 81 = .ok (.aload_n 0, 1) := by decide +kernel
theorem d_M_area_82 : decode b_M_area 82 = .ok (.getfield 28, 3) := by decide +kernel
theorem d_M_area_85 : decode b_M_area 85 = .ok (.iload 6, 2) := by decide +kernel
theorem d_M_area_87 : decode b_M_area 87 = .ok (.iaload, 1) := by decide +kernel
theorem d_M_area_88 : decode b_M_area 88 = .ok (.aload_n 0, 1) := by decide +kernel
theorem d_M_area_89 : decode b_M_area 89 = .ok (.getfield 25, 3) := by decide +kernel
theorem d_M_area_92 : decode b_M_area 92 = .ok (.iload 7, 2) := by decide +kernel
theorem d_M_area_94 : decode b_M_area 94 = .ok (.iaload, 1) := by decide +kernel
theorem d_M_area_95 : decode b_M_area 95 = .ok (.aload_n 0, 1) := by decide +kernel
theorem d_M_area_96 : decode b_M_area 96 = .ok (.getfield 28, 3) := by decide +kernel
theorem d_M_area_99 : decode b_M_area 99 = .ok (.iload 7, 2) := by decide +kernel
theorem d_M_area_101 : decode b_M_area 101 = .ok (.iaload, 1) := by decide +kernel
theorem d_M_area_102 : decode b_M_area 102 = .ok (.aload_n 0, 1) := by decide +kernel
theorem d_M_area_103 : decode b_M_area 103 = .ok (.getfield 25, 3) := by decide +kernel
theorem d_M_area_106 : decode b_M_area 106 = .ok (.iload 8, 2) := by decide +kernel
theorem d_M_area_108 : decode b_M_area 108 = .ok (.iaload, 1) := by decide +kernel
theorem d_M_area_109 : decode b_M_area 109 = .ok (.aload_n 0, 1) := by decide +kernel
theorem d_M_area_110 : decode b_M_area 110 = .ok (.getfield 28, 3) := by decide +kernel
theorem d_M_area_113 : decode b_M_area 113 = .ok (.iload 8, 2) := by decide +kernel
theorem d_M_area_115 : decode b_M_area 115 = .ok (.iaload, 1) := by decide +kernel
theorem d_M_area_116 : decode b_M_area 116 = .ok (.invokestatic 90, 3) := by decide +kernel
theorem d_M_area_119 : decode b_M_area 119 = .ok (.iadd, 1) := by decide +kernel
theorem d_M_area_120 : decode b_M_area 120 = .ok (.istore 4, 2) := by decide +kernel
theorem d_M_area_122 : decode b_M_area 122 = .ok (.iinc 5 1, 3) := by decide +kernel
theorem d_M_area_125 : decode b_M_area 125 = .ok (.goto (-93), 3) := by decide +kernel
theorem d_M_area_128 : decode b_M_area 128 = .ok (.iload 4, 2) := by decide +kernel
theorem d_M_area_130 : decode b_M_area 130 = .ok (.ifCond .ge 10, 3) := by decide +kernel
theorem d_M_area_133 : decode b_M_area 133 = .ok (.iconst 0, 1) := by decide +kernel
theorem d_M_area_134 : decode b_M_area 134 = .ok (.iload 4, 2) := by decide +kernel
theorem d_M_area_136 : decode b_M_area 136 = .ok (.isub, 1) := by decide +kernel
theorem d_M_area_137 : decode b_M_area 137 = .ok (.goto 5, 3) := by decide +kernel
theorem d_M_area_140 : decode b_M_area 140 = .ok (.iload 4, 2) := by decide +kernel
theorem d_M_area_142 : decode b_M_area 142 = .ok (.ireturn, 1) := by decide +kernel
theorem d_M_misfit_0 : decode b_M_misfit 0 = .ok (.aload_n 0, 1) := by decide +kernel
theorem d_M_misfit_1 : decode b_M_misfit 1 = .ok (.iload_n 1, 1) := by decide +kernel
theorem d_M_misfit_2 : decode b_M_misfit 2 = .ok (.ifCond .lt 7, 3) := by decide +kernel
theorem d_M_misfit_5 : decode b_M_misfit 5 = .ok (.iconst 1, 1) := by decide +kernel
theorem d_M_misfit_6 : decode b_M_misfit 6 = .ok (.goto 4, 3) := by decide +kernel
theorem d_M_misfit_9 : decode b_M_misfit 9 = .ok (.iconst 0, 1) := by decide +kernel
theorem d_M_misfit_10 : decode b_M_misfit 10 = .ok (.iload_n 2, 1) := by decide +kernel
theorem d_M_misfit_11 : decode b_M_misfit 11 = .ok (.invokestatic 80, 3) := by decide +kernel
theorem d_M_misfit_14 : decode b_M_misfit 14 = .ok (.iconst 1, 1) := by decide +kernel
theorem d_M_misfit_15 : decode b_M_misfit 15 = .ok (.invokevirtual 76, 3) := by decide +kernel
theorem d_M_misfit_18 : decode b_M_misfit 18 = .ok (.ifCond .ne 5, 3) := by decide +kernel
theorem d_M_misfit_21 : decode b_M_misfit 21 = .ok (.iconst 0, 1) := by decide +kernel
theorem d_M_misfit_22 : decode b_M_misfit 22 = .ok (.ireturn, 1) := by decide +kernel
theorem d_M_misfit_23 : decode b_M_misfit 23 = .ok (.iconst 0, 1) := by decide +kernel
theorem d_M_misfit_24 : decode b_M_misfit 24 = .ok (.istore_n 3, 1) := by decide +kernel
theorem d_M_misfit_25 : decode b_M_misfit 25 = .ok (.iconst 0, 1) := by decide +kernel
theorem d_M_misfit_26 : decode b_M_misfit 26 = .ok (.istore 4, 2) := by decide +kernel
theorem d_M_misfit_28 : decode b_M_misfit 28 = .ok (.iload 4, 2) := by decide +kernel
theorem d_M_misfit_30 : decode b_M_misfit 30 = .ok (.aload_n 0, 1) := by decide +kernel
theorem d_M_misfit_31 : decode b_M_misfit 31 = .ok (.getfield 66, 3) := by decide +kernel
theorem d_M_misfit_34 : decode b_M_misfit 34 = .ok (.if_icmp .ge 30, 3) := by decide +kernel
theorem d_M_misfit_37 : decode b_M_misfit 37 = .ok (.aload_n 0, 1) := by decide +kernel
theorem d_M_misfit_38 : decode b_M_misfit 38 = .ok (.iload 4, 2) := by decide +kernel
theorem d_M_misfit_40 : decode b_M_misfit 40 = .ok (.iload_n 2, 1) := by decide +kernel
theorem d_M_misfit_41 : decode b_M_misfit 41 = .ok (.invokevirtual 129, 3) := by decide +kernel
theorem d_M_misfit_44 : decode b_M_misfit 44 = .ok (.ifCond .eq 14, 3) := by decide +kernel
theorem d_M_misfit_47 : decode b_M_misfit 47 = .ok (.iload_n 3, 1) := by decide +kernel
theorem d_M_misfit_48 : decode b_M_misfit 48 = .ok (.iload_n 1, 1) := by decide +kernel
theorem d_M_misfit_49 : decode b_M_misfit 49 = .ok (.if_icmp .ne 6, 3) := by decide +kernel
theorem d_M_misfit_52 : decode b_M_misfit 52 = .ok (.iload 4, 2) := by decide +kernel
theorem d_M_misfit_54 : decode b_M_misfit 54 = .ok (.ireturn, 1) := by decide +kernel
theorem d_M_misfit_55 : decode b_M_misfit 55 = .ok (.iinc 3 1, 3) := by decide +kernel
theorem d_M_misfit_58 : decode b_M_misfit 58 = .ok (.iinc 4 1, 3) := by decide +kernel
theorem d_M_misfit_61 : decode b_M_misfit 61 = .ok (.goto (-33), 3) := by decide +kernel
theorem d_M_misfit_64 : decode b_M_misfit 64 = .ok (.iconst (-1), 1) := by decide +kernel
theorem d_M_misfit_65 : decode b_M_misfit 65 = .ok (.ireturn, 1) := by decide +kernel
theorem d_M_distance_0 : decode b_M_distance 0 = .ok (.aload_n 0, 1) := by decide +kernel
theorem d_M_distance_1 : decode b_M_distance 1 = .ok (.aload_n 0, 1) := by decide +kernel
theorem d_M_distance_2 : decode b_M_distance 2 = .ok (.iload_n 1, 1) := by decide +kernel
theorem d_M_distance_3 : decode b_M_distance 3 = .ok (.invokevirtual 72, 3) := by decide +kernel
theorem d_M_distance_6 : decode b_M_distance 6 = .ok (.ifCond .eq 15, 3) := by decide +kernel
theorem d_M_distance_9 : decode b_M_distance 9 = .ok (.aload_n 0, 1) := by decide +kernel
theorem d_M_distance_10 : decode b_M_distance 10 = .ok (.iload_n 2, 1) := by decide +kernel
theorem d_M_distance_11 : decode b_M_distance 11 = .ok (.invokevirtual 72, 3) := by decide +kernel
theorem d_M_distance_14 : decode b_M_distance 14 = .ok (.ifCond .eq 7, 3) := by decide +kernel
theorem d_M_distance_17 : decode b_M_distance 17 = .ok (.iconst 1, 1) := by decide +kernel
theorem d_M_distance_18 : decode b_M_distance 18 = .ok (.goto 4, 3) := by decide +kernel
theorem d_M_distance_21 : decode b_M_distance 21 = .ok (.iconst 0, 1) := by decide +kernel
theorem d_M_distance_22 : decode b_M_distance 22 = .ok (.iload_n 3, 1) := by decide +kernel
theorem d_M_distance_23 : decode b_M_distance 23 = .ok (.invokestatic 80, 3) := by decide +kernel
theorem d_M_distance_26 : decode b_M_distance 26 = .ok (.iconst 1, 1) := by decide +kernel
theorem d_M_distance_27 : decode b_M_distance 27 = .ok (.invokevirtual 76, 3) := by decide +kernel
theorem d_M_distance_30 : decode b_M_distance 30 = .ok (.ifCond .ne 5, 3) := by decide +kernel
theorem d_M_distance_33 : decode b_M_distance 33 = .ok (.iconst 0, 1) := by decide +kernel
theorem d_M_distance_34 : decode b_M_distance 34 = .ok (.ireturn, 1) := by decide +kernel
theorem d_M_distance_35 : decode b_M_distance 35 = .ok (.aload_n 0, 1) := by decide +kernel
theorem d_M_distance_36 : decode b_M_distance 36 = .ok (.iload_n 1, 1) := by decide +kernel
theorem d_M_distance_37 : decode b_M_distance 37 = .ok (.iload_n 3, 1) := by decide +kernel
theorem d_M_distance_38 : decode b_M_distance 38 = .ok (.invokevirtual 123, 3) := by decide +kernel
theorem d_M_distance_41 : decode b_M_distance 41 = .ok (.istore 4, 2) := by decide +kernel
theorem d_M_distance_43 : decode b_M_distance 43 = .ok (.aload_n 0, 1) := by decide +kernel
theorem d_M_distance_44 : decode b_M_distance 44 = .ok (.iload_n 2, 1) := by decide +kernel
theorem d_M_distance_45 : decode b_M_distance 45 = .ok (.iload_n 3, 1) := by decide +kernel
theorem d_M_distance_46 : decode b_M_distance 46 = .ok (.invokevirtual 123, 3) := by decide +kernel
theorem d_M_distance_49 : decode b_M_distance 49 = .ok (.istore 5, 2) := by decide +kernel
theorem d_M_distance_51 : decode b_M_distance 51 = .ok (.iconst (-1), 1) := by decide +kernel
theorem d_M_distance_52 : decode b_M_distance 52 = .ok (.istore 6, 2) := by decide +kernel
theorem d_M_distance_54 : decode b_M_distance 54 = .ok (.iconst 0, 1) := by decide +kernel
theorem d_M_distance_55 : decode b_M_distance 55 = .ok (.istore 7, 2) := by decide +kernel
theorem d_M_distance_57 : decode b_M_distance 57 = .ok (.iload 4, 2) := by decide +kernel
theorem d_M_distance_59 : decode b_M_distance 59 = .ok (.iconst (-1), 1) := by decide +kernel
theorem d_M_distance_60 : decode b_M_distance 60 = .ok (.if_icmp .eq 141, 3) := by decide +kernel
theorem d_M_distance_63 : decode b_M_distance 63 = .ok (.iload 5, 2) := by decide +kernel
theorem d_M_distance_65 : decode b_M_distance 65 = .ok (.iconst (-1), 1) := by decide +kernel
theorem d_M_distance_66 : decode b_M_distance 66 = .ok (.if_icmp .eq 135, 3) := by decide +kernel
theorem d_M_distance_69 : decode b_M_distance 69 = .ok (.iload 7, 2) := by decide +kernel
theorem d_M_distance_71 : decode b_M_distance 71 = .ok (.aload_n 0, 1) := by decide +kernel
theorem d_M_distance_72 : decode b_M_distance 72 = .ok (.getfield 22, 3) := by decide +kernel
theorem d_M_distance_75 : decode b_M_distance 75 = .ok (.iload 4, 2) := by decide +kernel
theorem d_M_distance_77 : decode b_M_distance 77 = .ok (.iaload, 1) := by decide +kernel
theorem d_M_distance_78 : decode b_M_distance 78 = .ok (.if_icmp .ge 123, 3) := by decide +kernel
theorem d_M_distance_81 : decode b_M_distance 81 = .ok (.iconst 0, 1) := by decide +kernel
theorem d_M_distance_82 : decode b_M_distance 82 = .ok (.istore 8, 2) := by decide +kernel
theorem d_M_distance_84 : decode b_M_distance 84 = .ok (.iload 8, 2) := by decide +kernel
theorem d_M_distance_86 : decode b_M_distance 86 = .ok (.aload_n 0, 1) := by decide +kernel
theorem d_M_distance_87 : decode b_M_distance 87 = .ok (.getfield 22, 3) := by decide +kernel
theorem d_M_distance_90 : decode b_M_distance 90 = .ok (.iload 5, 2) := by decide +kernel
theorem d_M_distance_92 : decode b_M_distance 92 = .ok (.iaload, 1) := by decide +kernel
theorem d_M_distance_93 : decode b_M_distance 93 = .ok (.if_icmp .ge 102, 3) := by decide +kernel
theorem d_M_distance_96 : decode b_M_distance 96 = .ok (.aload_n 0, 1) := by decide +kernel
theorem d_M_distance_97 : decode b_M_distance 97 = .ok (.getfield 25, 3) := by decide +kernel
theorem d_M_distance_100 : decode b_M_distance 100 = .ok (.bipush 12, 2) := by decide +kernel
theorem d_M_distance_102 : decode b_M_distance 102 = .ok (.iload 4, 2) := by decide +kernel
theorem d_M_distance_104 : decode b_M_distance 104 = .ok (.imul, 1) := by decide +kernel
theorem d_M_distance_105 : decode b_M_distance 105 = .ok (.iload 7, 2) := by decide +kernel
theorem d_M_distance_107 : decode b_M_distance 107 = .ok (.iadd, 1) := by decide +kernel
theorem d_M_distance_108 : decode b_M_distance 108 = .ok (.iaload, 1) := by decide +kernel
theorem d_M_distance_109 : decode b_M_distance 109 = .ok (.aload_n 0, 1) := by decide +kernel
theorem d_M_distance_110 : decode b_M_distance 110 = .ok (.getfield 25, 3) := by decide +kernel
theorem d_M_distance_113 : decode b_M_distance 113 = .ok (.bipush 12, 2) := by decide +kernel
theorem d_M_distance_115 : decode b_M_distance 115 = .ok (.iload 5, 2) := by decide +kernel
theorem d_M_distance_117 : decode b_M_distance 117 = .ok (.imul, 1) := by decide +kernel
theorem d_M_distance_118 : decode b_M_distance 118 = .ok (.iload 8, 2) := by decide +kernel
theorem d_M_distance_120 : decode b_M_distance 120 = .ok (.iadd, 1) := by decide +kernel
theorem d_M_distance_121 : decode b_M_distance 121 = .ok (.iaload, 1) := by decide +kernel
theorem d_M_distance_122 : decode b_M_distance 122 = .ok (.isub, 1) := by decide +kernel
theorem d_M_distance_123 : decode b_M_distance 123 = .ok (.istore 9, 2) := by decide +kernel
theorem d_M_distance_125 : decode b_M_distance 125 = .ok (.aload_n 0, 1) := by decide +kernel
theorem d_M_distance_126 : decode b_M_distance 126 = .ok (.getfield 28, 3) := by decide +kernel
theorem d_M_distance_129 : decode b_M_distance 129 = .ok (.bipush 12, 2) := by decide +kernel
theorem d_M_distance_131 : decode b_M_distance 131 = .ok (.iload 4, 2) := by decide +kernel
theorem d_M_distance_133 : decode b_M_distance 133 = .ok (.imul, 1) := by decide +kernel
theorem d_M_distance_134 : decode b_M_distance 134 = .ok (.iload 7, 2) := by decide +kernel
theorem d_M_distance_136 : decode b_M_distance 136 = .ok (.iadd, 1) := by decide +kernel
theorem d_M_distance_137 : decode b_M_distance 137 = .ok (.iaload, 1) := by decide +kernel
theorem d_M_distance_138 : decode b_M_distance 138 = .ok (.aload_n 0, 1) := by decide +kernel
theorem d_M_distance_139 : decode b_M_distance 139 = .ok (.getfield 28, 3) := by decide +kernel
theorem d_M_distance_142 : decode b_M_distance 142 = .ok (.bipush 12, 2) := by decide +kernel
theorem d_M_distance_144 : decode b_M_distance 144 = .ok (.iload 5, 2) := by decide +kernel
theorem d_M_distance_146 : decode b_M_distance 146 = .ok (.imul, 1) := by decide +kernel
theorem d_M_distance_147 : decode b_M_distance 147 = .ok (.iload 8, 2) := by decide +kernel
theorem d_M_distance_149 : decode b_M_distance 149 = .ok (.iadd, 1) := by decide +kernel
theorem d_M_distance_150 : decode b_M_distance 150 = .ok (.iaload, 1) := by decide +kernel
theorem d_M_distance_151 : decode b_M_distance 151 = .ok (.isub, 1) := by decide +kernel
theorem d_M_distance_152 : decode b_M_distance 152 = .ok (.istore 10, 2) := by decide +kernel
theorem d_M_distance_154 : decode b_M_distance 154 = .ok (.iload 9, 2) := by decide +kernel
theorem d_M_distance_156 : decode b_M_distance 156 = .ok (.iload 9, 2) := by decide +kernel
theorem d_M_distance_158 : decode b_M_distance 158 = .ok (.imul, 1) := by decide +kernel
theorem d_M_distance_159 : decode b_M_distance 159 = .ok (.iload 10, 2) := by decide +kernel
theorem d_M_distance_161 : decode b_M_distance 161 = .ok (.iload 10, 2) := by decide +kernel
theorem d_M_distance_163 : decode b_M_distance 163 = .ok (.imul, 1) := by decide +kernel
theorem d_M_distance_164 : decode b_M_distance 164 = .ok (.iadd, 1) := by decide +kernel
theorem d_M_distance_165 : decode b_M_distance 165 = .ok (.istore 11, 2) := by decide +kernel
theorem d_M_distance_167 : decode b_M_distance 167 = .ok (.iload 6, 2) := by decide +kernel
theorem d_M_distance_169 : decode b_M_distance 169 = .ok (.iconst (-1), 1) := by decide +kernel
theorem d_M_distance_170 : decode b_M_distance 170 = .ok (.if_icmp .eq 10, 3) := by decide +kernel
theorem d_M_distance_173 : decode b_M_distance 173 = .ok (.iload 11, 2) := by decide +kernel
theorem d_M_distance_175 : decode b_M_distance 175 = .ok (.iload 6, 2) := by decide +kernel
theorem d_M_distance_177 : decode b_M_distance 177 = .ok (.if_icmp .ge 8, 3) := by decide +kernel
theorem d_M_distance_180 : decode b_M_distance 180 = .ok (.iload 11, 2) := by decide +kernel
theorem d_M_distance_182 : decode b_M_distance 182 = .ok (.goto 5, 3) := by decide +kernel
theorem d_M_distance_185 : decode b_M_distance 185 = .ok (.iload 6, 2) := by decide +kernel
theorem d_M_distance_187 : decode b_M_distance 187 = .ok (.istore 6, 2) := by decide +kernel
theorem d_M_distance_189 : decode b_M_distance 189 = .ok (.iinc 8 1, 3) := by decide +kernel
theorem d_M_distance_192 : decode b_M_distance 192 = .ok (.goto (-108), 3) := by decide +kernel
theorem d_M_distance_195 : decode b_M_distance 195 = .ok (.iinc 7 1, 3) := by decide +kernel
theorem d_M_distance_198 : decode b_M_distance 198 = .ok (.goto (-141), 3) := by decide +kernel
theorem d_M_distance_201 : decode b_M_distance 201 = .ok (.iload 6, 2) := by decide +kernel
theorem d_M_distance_203 : decode b_M_distance 203 = .ok (.ireturn, 1) := by decide +kernel
theorem d_M_name_0 : decode b_M_name 0 = .ok (.aload_n 0, 1) := by decide +kernel
theorem d_M_name_1 : decode b_M_name 1 = .ok (.aload_n 0, 1) := by decide +kernel
theorem d_M_name_2 : decode b_M_name 2 = .ok (.iload_n 1, 1) := by decide +kernel
theorem d_M_name_3 : decode b_M_name 3 = .ok (.invokevirtual 72, 3) := by decide +kernel
theorem d_M_name_6 : decode b_M_name 6 = .ok (.iload_n 3, 1) := by decide +kernel
theorem d_M_name_7 : decode b_M_name 7 = .ok (.invokestatic 80, 3) := by decide +kernel
theorem d_M_name_10 : decode b_M_name 10 = .ok (.ifCond .eq 25, 3) := by decide +kernel
theorem d_M_name_13 : decode b_M_name 13 = .ok (.iload 4, 2) := by decide +kernel
theorem d_M_name_15 : decode b_M_name 15 = .ok (.invokestatic 80, 3) := by decide +kernel
theorem d_M_name_18 : decode b_M_name 18 = .ok (.ifCond .eq 17, 3) := by decide +kernel
theorem d_M_name_21 : decode b_M_name 21 = .ok (.iload_n 3, 1) := by decide +kernel
theorem d_M_name_22 : decode b_M_name 22 = .ok (.iload 4, 2) := by decide +kernel
theorem d_M_name_24 : decode b_M_name 24 = .ok (.if_icmp .gt 11, 3) := by decide +kernel
theorem d_M_name_27 : decode b_M_name 27 = .ok (.iload_n 2, 1) := by decide +kernel
theorem d_M_name_28 : decode b_M_name 28 = .ok (.ifCond .lt 7, 3) := by decide +kernel
theorem d_M_name_31 : decode b_M_name 31 = .ok (.iconst 1, 1) := by decide +kernel
theorem d_M_name_32 : decode b_M_name 32 = .ok (.goto 4, 3) := by decide +kernel
theorem d_M_name_35 : decode b_M_name 35 = .ok (.iconst 0, 1) := by decide +kernel
theorem d_M_name_36 : decode b_M_name 36 = .ok (.aload_n 0, 1) := by decide +kernel
theorem d_M_name_37 : decode b_M_name 37 = .ok (.getfield 132, 3) := by decide +kernel
theorem d_M_name_40 : decode b_M_name 40 = .ok (.bipush 40, 2) := by decide +kernel
theorem d_M_name_42 : decode b_M_name 42 = .ok (.if_icmp .ge 7, 3) := by decide +kernel
theorem d_M_name_45 : decode b_M_name 45 = .ok (.iconst 1, 1) := by decide +kernel
theorem d_M_name_46 : decode b_M_name 46 = .ok (.goto 4, 3) := by decide +kernel
theorem d_M_name_49 : decode b_M_name 49 = .ok (.iconst 0, 1) := by decide +kernel
theorem d_M_name_50 : decode b_M_name 50 = .ok (.invokevirtual 76, 3) := by decide +kernel
theorem d_M_name_53 : decode b_M_name 53 = .ok (.ifCond .eq 54, 3) := by decide +kernel
theorem d_M_name_56 : decode b_M_name 56 = .ok (.aload_n 0, 1) := by decide +kernel
theorem d_M_name_57 : decode b_M_name 57 = .ok (.getfield 37, 3) := by decide +kernel
theorem d_M_name_60 : decode b_M_name 60 = .ok (.aload_n 0, 1) := by decide +kernel
theorem d_M_name_61 : decode b_M_name 61 = .ok (.getfield 132, 3) := by decide +kernel
theorem d_M_name_64 : decode b_M_name 64 = .ok (.iload_n 1, 1) := by decide +kernel
theorem d_M_name_65 : decode b_M_name 65 = .ok (.iastore, 1) := by decide +kernel
theorem d_M_name_66 : decode b_M_name 66 = .ok (.aload_n 0, 1) := by decide +kernel
theorem d_M_name_67 : decode b_M_name 67 = .ok (.getfield 40, 3) := by decide +kernel
theorem d_M_name_70 : decode b_M_name 70 = .ok (.aload_n 0, 1) := by decide +kernel
theorem d_M_name_71 : decode b_M_name 71 = .ok (.getfield 132, 3) := by decide +kernel
theorem d_M_name_74 : decode b_M_name 74 = .ok (.iload_n 2, 1) := by decide +kernel
theorem d_M_name_75 : decode b_M_name 75 = .ok (.iastore, 1) := by decide +kernel
theorem d_M_name_76 : decode b_M_name 76 = .ok (.aload_n 0, 1) := by decide +kernel
theorem d_M_name_77 : decode b_M_name 77 = .ok (.getfield 43, 3) := by decide +kernel
theorem d_M_name_80 : decode b_M_name 80 = .ok (.aload_n 0, 1) := by decide +kernel
theorem d_M_name_81 : decode b_M_name 81 = .ok (.getfield 132, 3) := by decide +kernel
theorem d_M_name_84 : decode b_M_name 84 = .ok (.iload_n 3, 1) := by decide +kernel
theorem d_M_name_85 : decode b_M_name 85 = .ok (.iastore, 1) := by decide +kernel
theorem d_M_name_86 : decode b_M_name 86 = .ok (.aload_n 0, 1) := by decide +kernel
theorem d_M_name_87 : decode b_M_name 87 = .ok (.getfield 46, 3) := by decide +kernel
theorem d_M_name_90 : decode b_M_name 90 = .ok (.aload_n 0, 1) := by decide +kernel
theorem d_M_name_91 : decode b_M_name 91 = .ok (.getfield 132, 3) := by decide +kernel
theorem d_M_name_94 : decode b_M_name 94 = .ok (.iload 4, 2) := by decide +kernel
theorem d_M_name_96 : decode b_M_name 96 = .ok (.iastore, 1) := by decide +kernel
theorem d_M_name_97 : decode b_M_name 97 = .ok (.aload_n 0, 1) := by decide +kernel
theorem d_M_name_98 : decode b_M_name 98 = .ok (.dup, 1) := by decide +kernel
theorem d_M_name_99 : decode b_M_name 99 = .ok (.getfield 132, 3) := by decide +kernel
theorem d_M_name_102 : decode b_M_name 102 = .ok (.iconst 1, 1) := by decide +kernel
theorem d_M_name_103 : decode b_M_name 103 = .ok (.iadd, 1) := by decide +kernel
theorem d_M_name_104 : decode b_M_name 104 = .ok (.putfield 132, 3) := by decide +kernel
theorem d_M_name_107 : decode b_M_name 107 = .ok (.return_, 1) := by decide +kernel
theorem d_M_nameOn_0 : decode b_M_nameOn 0 = .ok (.aload_n 0, 1) := by decide +kernel
theorem d_M_nameOn_1 : decode b_M_nameOn 1 = .ok (.aload_n 0, 1) := by decide +kernel
theorem d_M_nameOn_2 : decode b_M_nameOn 2 = .ok (.iload_n 1, 1) := by decide +kernel
theorem d_M_nameOn_3 : decode b_M_nameOn 3 = .ok (.invokevirtual 72, 3) := by decide +kernel
theorem d_M_nameOn_6 : decode b_M_nameOn 6 = .ok (.iload_n 2, 1) := by decide +kernel
theorem d_M_nameOn_7 : decode b_M_nameOn 7 = .ok (.invokestatic 80, 3) := by decide +kernel
theorem d_M_nameOn_10 : decode b_M_nameOn 10 = .ok (.iconst 1, 1) := by decide +kernel
theorem d_M_nameOn_11 : decode b_M_nameOn 11 = .ok (.invokevirtual 76, 3) := by decide +kernel
theorem d_M_nameOn_14 : decode b_M_nameOn 14 = .ok (.ifCond .ne 5, 3) := by decide +kernel
theorem d_M_nameOn_17 : decode b_M_nameOn 17 = .ok (.iconst 0, 1) := by decide +kernel
theorem d_M_nameOn_18 : decode b_M_nameOn 18 = .ok (.ireturn, 1) := by decide +kernel
theorem d_M_nameOn_19 : decode b_M_nameOn 19 = .ok (.iconst (-1), 1) := by decide +kernel
theorem d_M_nameOn_20 : decode b_M_nameOn 20 = .ok (.istore_n 3, 1) := by decide +kernel
theorem d_M_nameOn_21 : decode b_M_nameOn 21 = .ok (.iconst 0, 1) := by decide +kernel
theorem d_M_nameOn_22 : decode b_M_nameOn 22 = .ok (.istore 4, 2) := by decide +kernel
theorem d_M_nameOn_24 : decode b_M_nameOn 24 = .ok (.iload 4, 2) := by decide +kernel
theorem d_M_nameOn_26 : decode b_M_nameOn 26 = .ok (.aload_n 0, 1) := by decide +kernel
theorem d_M_nameOn_27 : decode b_M_nameOn 27 = .ok (.getfield 132, 3) := by decide +kernel
theorem d_M_nameOn_30 : decode b_M_nameOn 30 = .ok (.if_icmp .ge 54, 3) := by decide +kernel
theorem d_M_nameOn_33 : decode b_M_nameOn 33 = .ok (.aload_n 0, 1) := by decide +kernel
theorem d_M_nameOn_34 : decode b_M_nameOn 34 = .ok (.getfield 37, 3) := by decide +kernel
theorem d_M_nameOn_37 : decode b_M_nameOn 37 = .ok (.iload 4, 2) := by decide +kernel
theorem d_M_nameOn_39 : decode b_M_nameOn 39 = .ok (.iaload, 1) := by decide +kernel
theorem d_M_nameOn_40 : decode b_M_nameOn 40 = .ok (.iload_n 1, 1) := by decide +kernel
theorem d_M_nameOn_41 : decode b_M_nameOn 41 = .ok (.if_icmp .ne 35, 3) := by decide +kernel
theorem d_M_nameOn_44 : decode b_M_nameOn 44 = .ok (.aload_n 0, 1) := by decide +kernel
theorem d_M_nameOn_45 : decode b_M_nameOn 45 = .ok (.getfield 43, 3) := by decide +kernel
theorem d_M_nameOn_48 : decode b_M_nameOn 48 = .ok (.iload 4, 2) := by decide +kernel
theorem d_M_nameOn_50 : decode b_M_nameOn 50 = .ok (.iaload, 1) := by decide +kernel
theorem d_M_nameOn_51 : decode b_M_nameOn 51 = .ok (.iload_n 2, 1) := by decide +kernel
theorem d_M_nameOn_52 : decode b_M_nameOn 52 = .ok (.if_icmp .gt 24, 3) := by decide +kernel
theorem d_M_nameOn_55 : decode b_M_nameOn 55 = .ok (.iload_n 2, 1) := by decide +kernel
theorem d_M_nameOn_56 : decode b_M_nameOn 56 = .ok (.aload_n 0, 1) := by decide +kernel
theorem d_M_nameOn_57 : decode b_M_nameOn 57 = .ok (.getfield 46, 3) := by decide +kernel
theorem d_M_nameOn_60 : decode b_M_nameOn 60 = .ok (.iload 4, 2) := by decide +kernel
theorem d_M_nameOn_62 : decode b_M_nameOn 62 = .ok (.iaload, 1) := by decide +kernel
theorem d_M_nameOn_63 : decode b_M_nameOn 63 = .ok (.if_icmp .gt 13, 3) := by decide +kernel
theorem d_M_nameOn_66 : decode b_M_nameOn 66 = .ok (.aload_n 0, 1) := by decide +kernel
theorem d_M_nameOn_67 : decode b_M_nameOn 67 = .ok (.getfield 40, 3) := by decide +kernel
theorem d_M_nameOn_70 : decode b_M_nameOn 70 = .ok (.iload 4, 2) := by decide +kernel
theorem d_M_nameOn_72 : decode b_M_nameOn 72 = .ok (.iaload, 1) := by decide +kernel
theorem d_M_nameOn_73 : decode b_M_nameOn 73 = .ok (.goto 4, 3) := by decide +kernel
theorem d_M_nameOn_76 : decode b_M_nameOn 76 = .ok (.iload_n 3, 1) := by decide +kernel
theorem d_M_nameOn_77 : decode b_M_nameOn 77 = .ok (.istore_n 3, 1) := by decide +kernel
theorem d_M_nameOn_78 : decode b_M_nameOn 78 = .ok (.iinc 4 1, 3) := by decide +kernel
theorem d_M_nameOn_81 : decode b_M_nameOn 81 = .ok (.goto (-57), 3) := by decide +kernel
theorem d_M_nameOn_84 : decode b_M_nameOn 84 = .ok (.iload_n 3, 1) := by decide +kernel
theorem d_M_nameOn_85 : decode b_M_nameOn 85 = .ok (.ireturn, 1) := by decide +kernel
theorem d_M_mark_0 : decode b_M_mark 0 = .ok (.aload_n 0, 1) := by decide +kernel
theorem d_M_mark_1 : decode b_M_mark 1 = .ok (.iload_n 1, 1) := by decide +kernel
theorem d_M_mark_2 : decode b_M_mark 2 = .ok (.iload_n 2, 1) := by decide +kernel
theorem d_M_mark_3 : decode b_M_mark 3 = .ok (.invokestatic 86, 3) := by decide +kernel
theorem d_M_mark_6 : decode b_M_mark 6 = .ok (.ifCond .eq 16, 3) := by decide +kernel
theorem d_M_mark_9 : decode b_M_mark 9 = .ok (.iload_n 3, 1) := by decide +kernel
theorem d_M_mark_10 : decode b_M_mark 10 = .ok (.iload 4, 2) := by decide +kernel
theorem d_M_mark_12 : decode b_M_mark 12 = .ok (.invokestatic 86, 3) := by decide +kernel
theorem d_M_mark_15 : decode b_M_mark 15 = .ok (.ifCond .eq 7, 3) := by decide +kernel
theorem d_M_mark_18 : decode b_M_mark 18 = .ok (.iconst 1, 1) := by decide +kernel
theorem d_M_mark_19 : decode b_M_mark 19 = .ok (.goto 4, 3) := by decide +kernel
theorem d_M_mark_22 : decode b_M_mark 22 = .ok (.iconst 0, 1) := by decide +kernel
theorem d_M_mark_23 : decode b_M_mark 23 = .ok (.aload_n 0, 1) := by decide +kernel
theorem d_M_mark_24 : decode b_M_mark 24 = .ok (.getfield 135, 3) := by decide +kernel
theorem d_M_mark_27 : decode b_M_mark 27 = .ok (.bipush 12, 2) := by decide +kernel
theorem d_M_mark_29 : decode b_M_mark 29 = .ok (.if_icmp .ge 7, 3) := by decide +kernel
theorem d_M_mark_32 : decode b_M_mark 32 = .ok (.iconst 1, 1) := by decide +kernel
theorem d_M_mark_33 : decode b_M_mark 33 = .ok (.goto 4, 3) := by decide +kernel
theorem d_M_mark_36 : decode b_M_mark 36 = .ok (.iconst 0, 1) := by decide +kernel
theorem d_M_mark_37 : decode b_M_mark 37 = .ok (.iconst 1, 1) := by decide +kernel
theorem d_M_mark_38 : decode b_M_mark 38 = .ok (.invokevirtual 76, 3) := by decide +kernel
theorem d_M_mark_41 : decode b_M_mark 41 = .ok (.ifCond .ne 5, 3) := by decide +kernel
theorem d_M_mark_44 : decode b_M_mark 44 = .ok (.iconst 0, 1) := by decide +kernel
theorem d_M_mark_45 : decode b_M_mark 45 = .ok (.ireturn, 1) := by decide +kernel
theorem d_M_mark_46 : decode b_M_mark 46 = .ok (.aload_n 0, 1) := by decide +kernel
theorem d_M_mark_47 : decode b_M_mark 47 = .ok (.getfield 49, 3) := by decide +kernel
theorem d_M_mark_50 : decode b_M_mark 50 = .ok (.aload_n 0, 1) := by decide +kernel
theorem d_M_mark_51 : decode b_M_mark 51 = .ok (.getfield 135, 3) := by decide +kernel
theorem d_M_mark_54 : decode b_M_mark 54 = .ok (.iload_n 1, 1) := by decide +kernel
theorem d_M_mark_55 : decode b_M_mark 55 = .ok (.iastore, 1) := by decide +kernel
theorem d_M_mark_56 : decode b_M_mark 56 = .ok (.aload_n 0, 1) := by decide +kernel
theorem d_M_mark_57 : decode b_M_mark 57 = .ok (.getfield 52, 3) := by decide +kernel
theorem d_M_mark_60 : decode b_M_mark 60 = .ok (.aload_n 0, 1) := by decide +kernel
theorem d_M_mark_61 : decode b_M_mark 61 = .ok (.getfield 135, 3) := by decide +kernel
theorem d_M_mark_64 : decode b_M_mark 64 = .ok (.iload_n 2, 1) := by decide +kernel
theorem d_M_mark_65 : decode b_M_mark 65 = .ok (.iastore, 1) := by decide +kernel
theorem d_M_mark_66 : decode b_M_mark 66 = .ok (.aload_n 0, 1) := by decide +kernel
theorem d_M_mark_67 : decode b_M_mark 67 = .ok (.getfield 55, 3) := by decide +kernel
theorem d_M_mark_70 : decode b_M_mark 70 = .ok (.aload_n 0, 1) := by decide +kernel
theorem d_M_mark_71 : decode b_M_mark 71 = .ok (.getfield 135, 3) := by decide +kernel
theorem d_M_mark_74 : decode b_M_mark 74 = .ok (.iload_n 3, 1) := by decide +kernel
theorem d_M_mark_75 : decode b_M_mark 75 = .ok (.iastore, 1) := by decide +kernel
theorem d_M_mark_76 : decode b_M_mark 76 = .ok (.aload_n 0, 1) := by decide +kernel
theorem d_M_mark_77 : decode b_M_mark 77 = .ok (.getfield 58, 3) := by decide +kernel
theorem d_M_mark_80 : decode b_M_mark 80 = .ok (.aload_n 0, 1) := by decide +kernel
theorem d_M_mark_81 : decode b_M_mark 81 = .ok (.getfield 135, 3) := by decide +kernel
theorem d_M_mark_84 : decode b_M_mark 84 = .ok (.iload 4, 2) := by decide +kernel
theorem d_M_mark_86 : decode b_M_mark 86 = .ok (.iastore, 1) := by decide +kernel
theorem d_M_mark_87 : decode b_M_mark 87 = .ok (.aload_n 0, 1) := by decide +kernel
theorem d_M_mark_88 : decode b_M_mark 88 = .ok (.dup, 1) := by decide +kernel
theorem d_M_mark_89 : decode b_M_mark 89 = .ok (.getfield 135, 3) := by decide +kernel
theorem d_M_mark_92 : decode b_M_mark 92 = .ok (.iconst 1, 1) := by decide +kernel
theorem d_M_mark_93 : decode b_M_mark 93 = .ok (.iadd, 1) := by decide +kernel
theorem d_M_mark_94 : decode b_M_mark 94 = .ok (.putfield 135, 3) := by decide +kernel
theorem d_M_mark_97 : decode b_M_mark 97 = .ok (.aload_n 0, 1) := by decide +kernel
theorem d_M_mark_98 : decode b_M_mark 98 = .ok (.getfield 135, 3) := by decide +kernel
theorem d_M_mark_101 : decode b_M_mark 101 = .ok (.iconst 1, 1) := by decide +kernel
theorem d_M_mark_102 : decode b_M_mark 102 = .ok (.isub, 1) := by decide +kernel
theorem d_M_mark_103 : decode b_M_mark 103 = .ok (.ireturn, 1) := by decide +kernel
theorem d_M_placed_0 : decode b_M_placed 0 = .ok (.iload_n 3, 1) := by decide +kernel
theorem d_M_placed_1 : decode b_M_placed 1 = .ok (.ifCond .eq 8, 3) := by decide +kernel
theorem d_M_placed_4 : decode b_M_placed 4 = .ok (.iload_n 3, 1) := by decide +kernel
theorem d_M_placed_5 : decode b_M_placed 5 = .ok (.iconst 1, 1) := by decide +kernel
theorem d_M_placed_6 : decode b_M_placed 6 = .ok (.if_icmp .ne 7, 3) := by decide +kernel
theorem d_M_placed_9 : decode b_M_placed 9 = .ok (.iconst 1, 1) := by decide +kernel
theorem d_M_placed_10 : decode b_M_placed 10 = .ok (.goto 4, 3) := by decide +kernel
theorem d_M_placed_13 : decode b_M_placed 13 = .ok (.iconst 0, 1) := by decide +kernel
theorem d_M_placed_14 : decode b_M_placed 14 = .ok (.istore 4, 2) := by decide +kernel
theorem d_M_placed_16 : decode b_M_placed 16 = .ok (.iconst (-1), 1) := by decide +kernel
theorem d_M_placed_17 : decode b_M_placed 17 = .ok (.istore 5, 2) := by decide +kernel
theorem d_M_placed_19 : decode b_M_placed 19 = .ok (.iconst 0, 1) := by decide +kernel
theorem d_M_placed_20 : decode b_M_placed 20 = .ok (.istore 6, 2) := by decide +kernel
theorem d_M_placed_22 : decode b_M_placed 22 = .ok (.iload 6, 2) := by decide +kernel
theorem d_M_placed_24 : decode b_M_placed 24 = .ok (.sipush 1728, 3) := by decide +kernel
theorem d_M_placed_27 : decode b_M_placed 27 = .ok (.if_icmp .ge 106, 3) := by decide +kernel
theorem d_M_placed_30 : decode b_M_placed 30 = .ok (.iload 5, 2) := by decide +kernel
theorem d_M_placed_32 : decode b_M_placed 32 = .ok (.iconst (-1), 1) := by decide +kernel
theorem d_M_placed_33 : decode b_M_placed 33 = .ok (.if_icmp .ne 100, 3) := by decide +kernel
theorem d_M_placed_36 : decode b_M_placed 36 = .ok (.iload 6, 2) := by decide +kernel
theorem d_M_placed_38 : decode b_M_placed 38 = .ok (.sipush 144, 3) := by decide +kernel
theorem d_M_placed_41 : decode b_M_placed 41 = .ok (.idiv, 1) := by decide +kernel
theorem d_M_placed_42 : decode b_M_placed 42 = .ok (.istore 7, 2) := by decide +kernel
theorem d_M_placed_44 : decode b_M_placed 44 = .ok (.iload 6, 2) := by decide +kernel
theorem d_M_placed_46 : decode b_M_placed 46 = .ok (.bipush 12, 2) := by decide +kernel
theorem d_M_placed_48 : decode b_M_placed 48 = .ok (.idiv, 1) := by decide +kernel
theorem d_M_placed_49 : decode b_M_placed 49 = .ok (.bipush 12, 2) := by decide +kernel
theorem d_M_placed_51 : decode b_M_placed 51 = .ok (.irem, 1) := by decide +kernel
theorem d_M_placed_52 : decode b_M_placed 52 = .ok (.istore 8, 2) := by decide +kernel
theorem d_M_placed_54 : decode b_M_placed 54 = .ok (.iload 6, 2) := by decide +kernel
theorem d_M_placed_56 : decode b_M_placed 56 = .ok (.bipush 12, 2) := by decide +kernel
theorem d_M_placed_58 : decode b_M_placed 58 = .ok (.irem, 1) := by decide +kernel
theorem d_M_placed_59 : decode b_M_placed 59 = .ok (.istore 9, 2) := by decide +kernel
theorem d_M_placed_61 : decode b_M_placed 61 = .ok (.iload 7, 2) := by decide +kernel
theorem d_M_placed_63 : decode b_M_placed 63 = .ok (.iload 8, 2) := by decide +kernel
theorem d_M_placed_65 : decode b_M_placed 65 = .ok (.if_icmp .ge 31, 3) := by decide +kernel
theorem d_M_placed_68 : decode b_M_placed 68 = .ok (.iload 8, 2) := by decide +kernel
theorem d_M_placed_70 : decode b_M_placed 70 = .ok (.iload 9, 2) := by decide +kernel
theorem d_M_placed_72 : decode b_M_placed 72 = .ok (.if_icmp .ge 24, 3) := by decide +kernel
theorem d_M_placed_75 : decode b_M_placed 75 = .ok (.iload 9, 2) := by decide +kernel
theorem d_M_placed_77 : decode b_M_placed 77 = .ok (.aload_n 0, 1) := by decide +kernel
theorem d_M_placed_78 : decode b_M_placed 78 = .ok (.getfield 135, 3) := by decide +kernel
theorem d_M_placed_81 : decode b_M_placed 81 = .ok (.if_icmp .ge 15, 3) := by decide +kernel
theorem d_M_placed_84 : decode b_M_placed 84 = .ok (.iload_n 1, 1) := by decide +kernel
theorem d_M_placed_85 : decode b_M_placed 85 = .ok (.iload_n 2, 1) := by decide +kernel
theorem d_M_placed_86 : decode b_M_placed 86 = .ok (.invokestatic 86, 3) := by decide +kernel
theorem d_M_placed_89 : decode b_M_placed 89 = .ok (.ifCond .eq 7, 3) := by decide +kernel
theorem d_M_placed_92 : decode b_M_placed 92 = .ok (.iconst 1, 1) := by decide +kernel
theorem d_M_placed_93 : decode b_M_placed 93 = .ok (.goto 4, 3) := by decide +kernel
theorem d_M_placed_96 : decode b_M_placed 96 = .ok (.iconst 0, 1) := by decide +kernel
theorem d_M_placed_97 : decode b_M_placed 97 = .ok (.istore 10, 2) := by decide +kernel
theorem d_M_placed_99 : decode b_M_placed 99 = .ok (.iload 10, 2) := by decide +kernel
theorem d_M_placed_101 : decode b_M_placed 101 = .ok (.ifCond .eq 23, 3) := by decide +kernel
theorem d_M_placed_104 : decode b_M_placed 104 = .ok (.aload_n 0, 1) := by decide +kernel
theorem d_M_placed_105 : decode b_M_placed 105 = .ok (.iload 7, 2) := by decide +kernel
theorem d_M_placed_107 : decode b_M_placed 107 = .ok (.iload 8, 2) := by decide +kernel
theorem d_M_placed_109 : decode b_M_placed 109 = .ok (.iload 9, 2) := by decide +kernel
theorem d_M_placed_111 : decode b_M_placed 111 = .ok (.iload_n 1, 1) := by decide +kernel
theorem d_M_placed_112 : decode b_M_placed 112 = .ok (.iload_n 2, 1) := by decide +kernel
theorem d_M_placed_113 : decode b_M_placed 113 = .ok (.invokevirtual 144, 3) := by decide +kernel
theorem d_M_placed_116 : decode b_M_placed 116 = .ok (.ifCond .eq 8, 3) := by decide +kernel
theorem d_M_placed_119 : decode b_M_placed 119 = .ok (.iload 6, 2) := by decide +kernel
theorem d_M_placed_121 : decode b_M_placed 121 = .ok (.goto 4, 3) := by decide +kernel
theorem d_M_placed_124 : decode b_M_placed 124 = .ok (.iconst (-1), 1) := by decide +kernel
theorem d_M_placed_125 : decode b_M_placed 125 = .ok (.istore 5, 2) := by decide +kernel
theorem d_M_placed_127 : decode b_M_placed 127 = .ok (.iinc 6 1, 3) := by decide +kernel
theorem d_M_placed_130 : decode b_M_placed 130 = .ok (.goto (-108), 3) := by decide +kernel
theorem d_M_placed_133 : decode b_M_placed 133 = .ok (.aload_n 0, 1) := by decide +kernel
theorem d_M_placed_134 : decode b_M_placed 134 = .ok (.iload 4, 2) := by decide +kernel
theorem d_M_placed_136 : decode b_M_placed 136 = .ok (.iload_n 1, 1) := by decide +kernel
theorem d_M_placed_137 : decode b_M_placed 137 = .ok (.iload_n 2, 1) := by decide +kernel
theorem d_M_placed_138 : decode b_M_placed 138 = .ok (.invokestatic 86, 3) := by decide +kernel
theorem d_M_placed_141 : decode b_M_placed 141 = .ok (.iload 5, 2) := by decide +kernel
theorem d_M_placed_143 : decode b_M_placed 143 = .ok (.iconst (-1), 1) := by decide +kernel
theorem d_M_placed_144 : decode b_M_placed 144 = .ok (.if_icmp .eq 7, 3) := by decide +kernel
theorem d_M_placed_147 : decode b_M_placed 147 = .ok (.iconst 1, 1) := by decide +kernel
theorem d_M_placed_148 : decode b_M_placed 148 = .ok (.goto 4, 3) := by decide +kernel
theorem d_M_placed_151 : decode b_M_placed 151 = .ok (.iconst 0, 1) := by decide +kernel
theorem d_M_placed_152 : decode b_M_placed 152 = .ok (.invokevirtual 76, 3) := by decide +kernel
theorem d_M_placed_155 : decode b_M_placed 155 = .ok (.ifCond .ne 5, 3) := by decide +kernel
theorem d_M_placed_158 : decode b_M_placed 158 = .ok (.iconst 0, 1) := by decide +kernel
theorem d_M_placed_159 : decode b_M_placed 159 = .ok (.ireturn, 1) := by decide +kernel
theorem d_M_placed_160 : decode b_M_placed 160 = .ok (.iload 5, 2) := by decide +kernel
theorem d_M_placed_162 : decode b_M_placed 162 = .ok (.sipush 144, 3) := by decide +kernel
theorem d_M_placed_165 : decode b_M_placed 165 = .ok (.idiv, 1) := by decide +kernel
theorem d_M_placed_166 : decode b_M_placed 166 = .ok (.istore 6, 2) := by decide +kernel
theorem d_M_placed_168 : decode b_M_placed 168 = .ok (.iload 5, 2) := by decide +kernel
theorem d_M_placed_170 : decode b_M_placed 170 = .ok (.bipush 12, 2) := by decide +kernel
theorem d_M_placed_172 : decode b_M_placed 172 = .ok (.idiv, 1) := by decide +kernel
theorem d_M_placed_173 : decode b_M_placed 173 = .ok (.bipush 12, 2) := by decide +kernel
theorem d_M_placed_175 : decode b_M_placed 175 = .ok (.irem, 1) := by decide +kernel
theorem d_M_placed_176 : decode b_M_placed 176 = .ok (.istore 7, 2) := by decide +kernel
theorem d_M_placed_178 : decode b_M_placed 178 = .ok (.iload 5, 2) := by decide +kernel
theorem d_M_placed_180 : decode b_M_placed 180 = .ok (.bipush 12, 2) := by decide +kernel
theorem d_M_placed_182 : decode b_M_placed 182 = .ok (.irem, 1) := by decide +kernel
theorem d_M_placed_183 : decode b_M_placed 183 = .ok (.istore 8, 2) := by decide +kernel
theorem d_M_placed_185 : decode b_M_placed 185 = .ok (.aload_n 0, 1) := by decide +kernel
theorem d_M_placed_186 : decode b_M_placed 186 = .ok (.iload 6, 2) := by decide +kernel
theorem d_M_placed_188 : decode b_M_placed 188 = .ok (.iload 7, 2) := by decide +kernel
theorem d_M_placed_190 : decode b_M_placed 190 = .ok (.aload_n 0, 1) := by decide +kernel
theorem d_M_placed_191 : decode b_M_placed 191 = .ok (.getfield 49, 3) := by decide +kernel
theorem d_M_placed_194 : decode b_M_placed 194 = .ok (.iload 8, 2) := by decide +kernel
theorem d_M_placed_196 : decode b_M_placed 196 = .ok (.iaload, 1) := by decide +kernel
theorem d_M_placed_197 : decode b_M_placed 197 = .ok (.aload_n 0, 1) := by decide +kernel
theorem d_M_placed_198 : decode b_M_placed 198 = .ok (.getfield 52, 3) := by decide +kernel
theorem d_M_placed_201 : decode b_M_placed 201 = .ok (.iload 8, 2) := by decide +kernel
theorem d_M_placed_203 : decode b_M_placed 203 = .ok (.iaload, 1) := by decide +kernel
theorem d_M_placed_204 : decode b_M_placed 204 = .ok (.invokevirtual 138, 3) := by decide +kernel
theorem d_M_placed_207 : decode b_M_placed 207 = .ok (.i2l, 1) := by decide +kernel
theorem d_M_placed_208 : decode b_M_placed 208 = .ok (.lstore 9, 2) := by decide +kernel
theorem d_M_placed_210 : decode b_M_placed 210 = .ok (.aload_n 0, 1) := by decide +kernel
theorem d_M_placed_211 : decode b_M_placed 211 = .ok (.iload 7, 2) := by decide +kernel
theorem d_M_placed_213 : decode b_M_placed 213 = .ok (.iload 8, 2) := by decide +kernel
theorem d_M_placed_215 : decode b_M_placed 215 = .ok (.iload_n 1, 1) := by decide +kernel
theorem d_M_placed_216 : decode b_M_placed 216 = .ok (.iload_n 2, 1) := by decide +kernel
theorem d_M_placed_217 : decode b_M_placed 217 = .ok (.invokevirtual 138, 3) := by decide +kernel
theorem d_M_placed_220 : decode b_M_placed 220 = .ok (.i2l, 1) := by decide +kernel
theorem d_M_placed_221 : decode b_M_placed 221 = .ok (.lstore 11, 2) := by decide +kernel
theorem d_M_placed_223 : decode b_M_placed 223 = .ok (.aload_n 0, 1) := by decide +kernel
theorem d_M_placed_224 : decode b_M_placed 224 = .ok (.iload 8, 2) := by decide +kernel
theorem d_M_placed_226 : decode b_M_placed 226 = .ok (.iload 6, 2) := by decide +kernel
theorem d_M_placed_228 : decode b_M_placed 228 = .ok (.iload_n 1, 1) := by decide +kernel
theorem d_M_placed_229 : decode b_M_placed 229 = .ok (.iload_n 2, 1) := by decide +kernel
theorem d_M_placed_230 : decode b_M_placed 230 = .ok (.invokevirtual 138, 3) := by decide +kernel
theorem d_M_placed_233 : decode b_M_placed 233 = .ok (.i2l, 1) := by decide +kernel
theorem d_M_placed_234 : decode b_M_placed 234 = .ok (.lstore 13, 2) := by decide +kernel
theorem d_M_placed_236 : decode b_M_placed 236 = .ok (.aload_n 0, 1) := by decide +kernel
theorem d_M_placed_237 : decode b_M_placed 237 = .ok (.iload 6, 2) := by decide +kernel
theorem d_M_placed_239 : decode b_M_placed 239 = .ok (.iload 7, 2) := by decide +kernel
theorem d_M_placed_241 : decode b_M_placed 241 = .ok (.iload_n 1, 1) := by decide +kernel
theorem d_M_placed_242 : decode b_M_placed 242 = .ok (.iload_n 2, 1) := by decide +kernel
theorem d_M_placed_243 : decode b_M_placed 243 = .ok (.invokevirtual 138, 3) := by decide +kernel
theorem d_M_placed_246 : decode b_M_placed 246 = .ok (.i2l, 1) := by decide +kernel
theorem d_M_placed_247 : decode b_M_placed 247 = .ok (.lstore 15, 2) := by decide +kernel
theorem d_M_placed_249 : decode b_M_placed 249 = .ok (.iload_n 3, 1) := by decide +kernel
theorem d_M_placed_250 : decode b_M_placed 250 = .ok (.ifCond .ne 46, 3) := by decide +kernel
theorem d_M_placed_253 : decode b_M_placed 253 = .ok (.lload 11, 2) := by decide +kernel
theorem d_M_placed_255 : decode b_M_placed 255 = .ok (.aload_n 0, 1) := by decide +kernel
theorem d_M_placed_256 : decode b_M_placed 256 = .ok (.getfield 55, 3) := by decide +kernel
theorem d_M_placed_259 : decode b_M_placed 259 = .ok (.iload 6, 2) := by decide +kernel
theorem d_M_placed_261 : decode b_M_placed 261 = .ok (.iaload, 1) := by decide +kernel
theorem d_M_placed_262 : decode b_M_placed 262 = .ok (.i2l, 1) := by decide +kernel
theorem d_M_placed_263 : decode b_M_placed 263 = .ok (.lmul, 1) := by decide +kernel
theorem d_M_placed_264 : decode b_M_placed 264 = .ok (.lload 13, 2) := by decide +kernel
theorem d_M_placed_266 : decode b_M_placed 266 = .ok (.aload_n 0, 1) := by decide +kernel
theorem d_M_placed_267 : decode b_M_placed 267 = .ok (.getfield 55, 3) := by decide +kernel
theorem d_M_placed_270 : decode b_M_placed 270 = .ok (.iload 7, 2) := by decide +kernel
theorem d_M_placed_272 : decode b_M_placed 272 = .ok (.iaload, 1) := by decide +kernel
theorem d_M_placed_273 : decode b_M_placed 273 = .ok (.i2l, 1) := by decide +kernel
theorem d_M_placed_274 : decode b_M_placed 274 = .ok (.lmul, 1) := by decide +kernel
theorem d_M_placed_275 : decode b_M_placed 275 = .ok (.ladd, 1) := by decide +kernel
theorem d_M_placed_276 : decode b_M_placed 276 = .ok (.lload 15, 2) := by decide +kernel
theorem d_M_placed_278 : decode b_M_placed 278 = .ok (.aload_n 0, 1) := by decide +kernel
theorem d_M_placed_279 : decode b_M_placed 279 = .ok (.getfield 55, 3) := by decide +kernel
theorem d_M_placed_282 : decode b_M_placed 282 = .ok (.iload 8, 2) := by decide +kernel
theorem d_M_placed_284 : decode b_M_placed 284 = .ok (.iaload, 1) := by decide +kernel
theorem d_M_placed_285 : decode b_M_placed 285 = .ok (.i2l, 1) := by decide +kernel
theorem d_M_placed_286 : decode b_M_placed 286 = .ok (.lmul, 1) := by decide +kernel
theorem d_M_placed_287 : decode b_M_placed 287 = .ok (.ladd, 1) := by decide +kernel
theorem d_M_placed_288 : decode b_M_placed 288 = .ok (.lload 9, 2) := by decide +kernel
theorem d_M_placed_290 : decode b_M_placed 290 = .ok (.invokestatic 148, 3) := by decide +kernel
theorem d_M_placed_293 : decode b_M_placed 293 = .ok (.goto 43, 3) := by decide +kernel
theorem d_M_placed_296 : decode b_M_placed 296 = .ok (.lload 11, 2) := by decide +kernel
theorem d_M_placed_298 : decode b_M_placed 298 = .ok (.aload_n 0, 1) := by decide +kernel
theorem d_M_placed_299 : decode b_M_placed 299 = .ok (.getfield 58, 3) := by decide +kernel
theorem d_M_placed_302 : decode b_M_placed 302 = .ok (.iload 6, 2) := by decide +kernel
theorem d_M_placed_304 : decode b_M_placed 304 = .ok (.iaload, 1) := by decide +kernel
theorem d_M_placed_305 : decode b_M_placed 305 = .ok (.i2l, 1) := by decide +kernel
theorem d_M_placed_306 : decode b_M_placed 306 = .ok (.lmul, 1) := by decide +kernel
theorem d_M_placed_307 : decode b_M_placed 307 = .ok (.lload 13, 2) := by decide +kernel
theorem d_M_placed_309 : decode b_M_placed 309 = .ok (.aload_n 0, 1) := by decide +kernel
theorem d_M_placed_310 : decode b_M_placed 310 = .ok (.getfield 58, 3) := by decide +kernel
theorem d_M_placed_313 : decode b_M_placed 313 = .ok (.iload 7, 2) := by decide +kernel
theorem d_M_placed_315 : decode b_M_placed 315 = .ok (.iaload, 1) := by decide +kernel
theorem d_M_placed_316 : decode b_M_placed 316 = .ok (.i2l, 1) := by decide +kernel
theorem d_M_placed_317 : decode b_M_placed 317 = .ok (.lmul, 1) := by decide +kernel
theorem d_M_placed_318 : decode b_M_placed 318 = .ok (.ladd, 1) := by decide +kernel
theorem d_M_placed_319 : decode b_M_placed 319 = .ok (.lload 15, 2) := by decide +kernel
theorem d_M_placed_321 : decode b_M_placed 321 = .ok (.aload_n 0, 1) := by decide +kernel
theorem d_M_placed_322 : decode b_M_placed 322 = .ok (.getfield 58, 3) := by decide +kernel
theorem d_M_placed_325 : decode b_M_placed 325 = .ok (.iload 8, 2) := by decide +kernel
theorem d_M_placed_327 : decode b_M_placed 327 = .ok (.iaload, 1) := by decide +kernel
theorem d_M_placed_328 : decode b_M_placed 328 = .ok (.i2l, 1) := by decide +kernel
theorem d_M_placed_329 : decode b_M_placed 329 = .ok (.lmul, 1) := by decide +kernel
theorem d_M_placed_330 : decode b_M_placed 330 = .ok (.ladd, 1) := by decide +kernel
theorem d_M_placed_331 : decode b_M_placed 331 = .ok (.lload 9, 2) := by decide +kernel
theorem d_M_placed_333 : decode b_M_placed 333 = .ok (.invokestatic 148, 3) := by decide +kernel
theorem d_M_placed_336 : decode b_M_placed 336 = .ok (.ireturn, 1) := by decide +kernel
theorem d_M_masked_0 : decode b_M_masked 0 = .ok (.aload_n 0, 1) := by decide +kernel
theorem d_M_masked_1 : decode b_M_masked 1 = .ok (.iload 4, 2) := by decide +kernel
theorem d_M_masked_3 : decode b_M_masked 3 = .ok (.ifCond .eq 9, 3) := by decide +kernel
theorem d_M_masked_6 : decode b_M_masked 6 = .ok (.iload 4, 2) := by decide +kernel
theorem d_M_masked_8 : decode b_M_masked 8 = .ok (.iconst 1, 1) := by decide +kernel
theorem d_M_masked_9 : decode b_M_masked 9 = .ok (.if_icmp .ne 7, 3) := by decide +kernel
theorem d_M_masked_12 : decode b_M_masked 12 = .ok (.iconst 1, 1) := by decide +kernel
theorem d_M_masked_13 : decode b_M_masked 13 = .ok (.goto 4, 3) := by decide +kernel
theorem d_M_masked_16 : decode b_M_masked 16 = .ok (.iconst 0, 1) := by decide +kernel
theorem d_M_masked_17 : decode b_M_masked 17 = .ok (.iload_n 1, 1) := by decide +kernel
theorem d_M_masked_18 : decode b_M_masked 18 = .ok (.iload_n 2, 1) := by decide +kernel
theorem d_M_masked_19 : decode b_M_masked 19 = .ok (.invokestatic 86, 3) := by decide +kernel
theorem d_M_masked_22 : decode b_M_masked 22 = .ok (.ifCond .eq 19, 3) := by decide +kernel
theorem d_M_masked_25 : decode b_M_masked 25 = .ok (.iload_n 3, 1) := by decide +kernel
theorem d_M_masked_26 : decode b_M_masked 26 = .ok (.iconst 1, 1) := by decide +kernel
theorem d_M_masked_27 : decode b_M_masked 27 = .ok (.if_icmp .lt 14, 3) := by decide +kernel
theorem d_M_masked_30 : decode b_M_masked 30 = .ok (.iload_n 3, 1) := by decide +kernel
theorem d_M_masked_31 : decode b_M_masked 31 = .ok (.sipush 10000, 3) := by decide +kernel
theorem d_M_masked_34 : decode b_M_masked 34 = .ok (.if_icmp .gt 7, 3) := by decide +kernel
theorem d_M_masked_37 : decode b_M_masked 37 = .ok (.iconst 1, 1) := by decide +kernel
theorem d_M_masked_38 : decode b_M_masked 38 = .ok (.goto 4, 3) := by decide +kernel
theorem d_M_masked_41 : decode b_M_masked 41 = .ok (.iconst 0, 1) := by decide +kernel
theorem d_M_masked_42 : decode b_M_masked 42 = .ok (.iconst 1, 1) := by decide +kernel
theorem d_M_masked_43 : decode b_M_masked 43 = .ok (.invokevirtual 76, 3) := by decide +kernel
theorem d_M_masked_46 : decode b_M_masked 46 = .ok (.ifCond .ne 5, 3) := by decide +kernel
theorem d_M_masked_49 : decode b_M_masked 49 = .ok (.iconst 0, 1) := by decide +kernel
theorem d_M_masked_50 : decode b_M_masked 50 = .ok (.ireturn, 1) := by decide +kernel
theorem d_M_masked_51 : decode b_M_masked 51 = .ok (.iload 4, 2) := by decide +kernel
theorem d_M_masked_53 : decode b_M_masked 53 = .ok (.ifCond .ne 7, 3) := by decide +kernel
theorem d_M_masked_56 : decode b_M_masked 56 = .ok (.iload_n 1, 1) := by decide +kernel
theorem d_M_masked_57 : decode b_M_masked 57 = .ok (.goto 4, 3) := by decide +kernel
theorem d_M_masked_60 : decode b_M_masked 60 = .ok (.iload_n 2, 1) := by decide +kernel
theorem d_M_masked_61 : decode b_M_masked 61 = .ok (.istore 5, 2) := by decide +kernel
theorem d_M_masked_63 : decode b_M_masked 63 = .ok (.iload 5, 2) := by decide +kernel
theorem d_M_masked_65 : decode b_M_masked 65 = .ok (.iload_n 3, 1) := by decide +kernel
theorem d_M_masked_66 : decode b_M_masked 66 = .ok (.irem, 1) := by decide +kernel
theorem d_M_masked_67 : decode b_M_masked 67 = .ok (.istore 6, 2) := by decide +kernel
theorem d_M_masked_69 : decode b_M_masked 69 = .ok (.iload 6, 2) := by decide +kernel
theorem d_M_masked_71 : decode b_M_masked 71 = .ok (.ifCond .ge 13, 3) := by decide +kernel
theorem d_M_masked_74 : decode b_M_masked 74 = .ok (.iload 5, 2) := by decide +kernel
theorem d_M_masked_76 : decode b_M_masked 76 = .ok (.iload 6, 2) := by decide +kernel
theorem d_M_masked_78 : decode b_M_masked 78 = .ok (.isub, 1) := by decide +kernel
theorem d_M_masked_79 : decode b_M_masked 79 = .ok (.iload_n 3, 1) := by decide +kernel
theorem d_M_masked_80 : decode b_M_masked 80 = .ok (.isub, 1) := by decide +kernel
theorem d_M_masked_81 : decode b_M_masked 81 = .ok (.goto 8, 3) := by decide +kernel
theorem d_M_masked_84 : decode b_M_masked 84 = .ok (.iload 5, 2) := by decide +kernel
theorem d_M_masked_86 : decode b_M_masked 86 = .ok (.iload 6, 2) := by decide +kernel
theorem d_M_masked_88 : decode b_M_masked 88 = .ok (.isub, 1) := by decide +kernel
theorem d_M_masked_89 : decode b_M_masked 89 = .ok (.ireturn, 1) := by decide +kernel
