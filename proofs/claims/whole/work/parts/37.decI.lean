theorem d_M_init_0 : decode b_M_init 0 = .ok (.aload_n 0, 1) := by decide +kernel
theorem d_M_init_1 : decode b_M_init 1 = .ok (.invokespecial 1, 3) := by decide +kernel
theorem d_M_init_4 : decode b_M_init 4 = .ok (.aload_n 0, 1) := by decide +kernel
theorem d_M_init_5 : decode b_M_init 5 = .ok (.bipush 16, 2) := by decide +kernel
theorem d_M_init_7 : decode b_M_init 7 = .ok (.newarray .int, 2) := by decide +kernel
theorem d_M_init_9 : decode b_M_init 9 = .ok (.putfield 7, 3) := by decide +kernel
theorem d_M_init_12 : decode b_M_init 12 = .ok (.aload_n 0, 1) := by decide +kernel
theorem d_M_init_13 : decode b_M_init 13 = .ok (.bipush 32, 2) := by decide +kernel
theorem d_M_init_15 : decode b_M_init 15 = .ok (.newarray .int, 2) := by decide +kernel
theorem d_M_init_17 : decode b_M_init 17 = .ok (.putfield 13, 3) := by decide +kernel
theorem d_M_init_20 : decode b_M_init 20 = .ok (.aload_n 0, 1) := by decide +kernel
theorem d_M_init_21 : decode b_M_init 21 = .ok (.bipush 32, 2) := by decide +kernel
theorem d_M_init_23 : decode b_M_init 23 = .ok (.newarray .int, 2) := by decide +kernel
theorem d_M_init_25 : decode b_M_init 25 = .ok (.putfield 16, 3) := by decide +kernel
theorem d_M_init_28 : decode b_M_init 28 = .ok (.aload_n 0, 1) := by decide +kernel
theorem d_M_init_29 : decode b_M_init 29 = .ok (.bipush 32, 2) := by decide +kernel
theorem d_M_init_31 : decode b_M_init 31 = .ok (.newarray .int, 2) := by decide +kernel
theorem d_M_init_33 : decode b_M_init 33 = .ok (.putfield 19, 3) := by decide +kernel
theorem d_M_init_36 : decode b_M_init 36 = .ok (.aload_n 0, 1) := by decide +kernel
theorem d_M_init_37 : decode b_M_init 37 = .ok (.bipush 32, 2) := by decide +kernel
theorem d_M_init_39 : decode b_M_init 39 = .ok (.newarray .int, 2) := by decide +kernel
theorem d_M_init_41 : decode b_M_init 41 = .ok (.putfield 22, 3) := by decide +kernel
theorem d_M_init_44 : decode b_M_init 44 = .ok (.aload_n 0, 1) := by decide +kernel
theorem d_M_init_45 : decode b_M_init 45 = .ok (.sipush 384, 3) := by decide +kernel
theorem d_M_init_48 : decode b_M_init 48 = .ok (.newarray .int, 2) := by decide +kernel
theorem d_M_init_50 : decode b_M_init 50 = .ok (.putfield 25, 3) := by decide +kernel
theorem d_M_init_53 : decode b_M_init 53 = .ok (.aload_n 0, 1) := by decide +kernel
theorem d_M_init_54 : decode b_M_init 54 = .ok (.sipush 384, 3) := by decide +kernel
theorem d_M_init_57 : decode b_M_init 57 = .ok (.newarray .int, 2) := by decide +kernel
theorem d_M_init_59 : decode b_M_init 59 = .ok (.putfield 28, 3) := by decide +kernel
theorem d_M_init_62 : decode b_M_init 62 = .ok (.aload_n 0, 1) := by decide +kernel
theorem d_M_init_63 : decode b_M_init 63 = .ok (.bipush 32, 2) := by decide +kernel
theorem d_M_init_65 : decode b_M_init 65 = .ok (.newarray .int, 2) := by decide +kernel
theorem d_M_init_67 : decode b_M_init 67 = .ok (.putfield 31, 3) := by decide +kernel
theorem d_M_init_70 : decode b_M_init 70 = .ok (.aload_n 0, 1) := by decide +kernel
theorem d_M_init_71 : decode b_M_init 71 = .ok (.bipush 32, 2) := by decide +kernel
theorem d_M_init_73 : decode b_M_init 73 = .ok (.newarray .int, 2) := by decide +kernel
theorem d_M_init_75 : decode b_M_init 75 = .ok (.putfield 34, 3) := by decide +kernel
theorem d_M_init_78 : decode b_M_init 78 = .ok (.aload_n 0, 1) := by decide +kernel
theorem d_M_init_79 : decode b_M_init 79 = .ok (.bipush 40, 2) := by decide +kernel
theorem d_M_init_81 : decode b_M_init 81 = .ok (.newarray .int, 2) := by decide +kernel
theorem d_M_init_83 : decode b_M_init 83 = .ok (.putfield 37, 3) := by decide +kernel
theorem d_M_init_86 : decode b_M_init 86 = .ok (.aload_n 0, 1) := by decide +kernel
theorem d_M_init_87 : decode b_M_init 87 = .ok (.bipush 40, 2) := by decide +kernel
theorem d_M_init_89 : decode b_M_init 89 = .ok (.newarray .int, 2) := by decide +kernel
theorem d_M_init_91 : decode b_M_init 91 = .ok (.putfield 40, 3) := by decide +kernel
theorem d_M_init_94 : decode b_M_init 94 = .ok (.aload_n 0, 1) := by decide +kernel
theorem d_M_init_95 : decode b_M_init 95 = .ok (.bipush 40, 2) := by decide +kernel
theorem d_M_init_97 : decode b_M_init 97 = .ok (.newarray .int, 2) := by decide +kernel
theorem d_M_init_99 : decode b_M_init 99 = .ok (.putfield 43, 3) := by decide +kernel
theorem d_M_init_102 : decode b_M_init 102 = .ok (.aload_n 0, 1) := by decide +kernel
theorem d_M_init_103 : decode b_M_init 103 = .ok (.bipush 40, 2) := by decide +kernel
theorem d_M_init_105 : decode b_M_init 105 = .ok (.newarray .int, 2) := by decide +kernel
theorem d_M_init_107 : decode b_M_init 107 = .ok (.putfield 46, 3) := by decide +kernel
theorem d_M_init_110 : decode b_M_init 110 = .ok (.aload_n 0, 1) := by decide +kernel
theorem d_M_init_111 : decode b_M_init 111 = .ok (.bipush 12, 2) := by decide +kernel
theorem d_M_init_113 : decode b_M_init 113 = .ok (.newarray .int, 2) := by decide +kernel
theorem d_M_init_115 : decode b_M_init 115 = .ok (.putfield 49, 3) := by decide +kernel
theorem d_M_init_118 : decode b_M_init 118 = .ok (.aload_n 0, 1) := by decide +kernel
theorem d_M_init_119 : decode b_M_init 119 = .ok (.bipush 12, 2) := by decide +kernel
theorem d_M_init_121 : decode b_M_init 121 = .ok (.newarray .int, 2) := by decide +kernel
theorem d_M_init_123 : decode b_M_init 123 = .ok (.putfield 52, 3) := by decide +kernel
theorem d_M_init_126 : decode b_M_init 126 = .ok (.aload_n 0, 1) := by decide +kernel
theorem d_M_init_127 : decode b_M_init 127 = .ok (.bipush 12, 2) := by decide +kernel
theorem d_M_init_129 : decode b_M_init 129 = .ok (.newarray .int, 2) := by decide +kernel
theorem d_M_init_131 : decode b_M_init 131 = .ok (.putfield 55, 3) := by decide +kernel
theorem d_M_init_134 : decode b_M_init 134 = .ok (.aload_n 0, 1) := by decide +kernel
theorem d_M_init_135 : decode b_M_init 135 = .ok (.bipush 12, 2) := by decide +kernel
theorem d_M_init_137 : decode b_M_init 137 = .ok (.newarray .int, 2) := by decide +kernel
theorem d_M_init_139 : decode b_M_init 139 = .ok (.putfield 58, 3) := by decide +kernel
theorem d_M_init_142 : decode b_M_init 142 = .ok (.return_, 1) := by decide +kernel
theorem d_N_init_0 : decode b_N_init 0 = .ok (.aload_n 0, 1) := by decide +kernel
theorem d_N_init_1 : decode b_N_init 1 = .ok (.invokespecial 3, 3) := by decide +kernel
theorem d_N_init_4 : decode b_N_init 4 = .ok (.aload_n 0, 1) := by decide +kernel
theorem d_N_init_5 : decode b_N_init 5 = .ok (.bipush 40, 2) := by decide +kernel
theorem d_N_init_7 : decode b_N_init 7 = .ok (.newarray .int, 2) := by decide +kernel
theorem d_N_init_9 : decode b_N_init 9 = .ok (.putfield 9, 3) := by decide +kernel
theorem d_N_init_12 : decode b_N_init 12 = .ok (.aload_n 0, 1) := by decide +kernel
theorem d_N_init_13 : decode b_N_init 13 = .ok (.bipush 40, 2) := by decide +kernel
theorem d_N_init_15 : decode b_N_init 15 = .ok (.newarray .int, 2) := by decide +kernel
theorem d_N_init_17 : decode b_N_init 17 = .ok (.putfield 15, 3) := by decide +kernel
theorem d_N_init_20 : decode b_N_init 20 = .ok (.aload_n 0, 1) := by decide +kernel
theorem d_N_init_21 : decode b_N_init 21 = .ok (.bipush 40, 2) := by decide +kernel
theorem d_N_init_23 : decode b_N_init 23 = .ok (.newarray .int, 2) := by decide +kernel
theorem d_N_init_25 : decode b_N_init 25 = .ok (.putfield 18, 3) := by decide +kernel
theorem d_N_init_28 : decode b_N_init 28 = .ok (.aload_n 0, 1) := by decide +kernel
theorem d_N_init_29 : decode b_N_init 29 = .ok (.bipush 40, 2) := by decide +kernel
theorem d_N_init_31 : decode b_N_init 31 = .ok (.newarray .int, 2) := by decide +kernel
theorem d_N_init_33 : decode b_N_init 33 = .ok (.putfield 21, 3) := by decide +kernel
theorem d_N_init_36 : decode b_N_init 36 = .ok (.return_, 1) := by decide +kernel
theorem d_N_add_0 : decode b_N_add 0 = .ok (.aload_n 0, 1) := by decide +kernel
theorem d_N_add_1 : decode b_N_add 1 = .ok (.getfield 9, 3) := by decide +kernel
theorem d_N_add_4 : decode b_N_add 4 = .ok (.aload_n 0, 1) := by decide +kernel
theorem d_N_add_5 : decode b_N_add 5 = .ok (.getfield 24, 3) := by decide +kernel
theorem d_N_add_8 : decode b_N_add 8 = .ok (.iload_n 1, 1) := by decide +kernel
theorem d_N_add_9 : decode b_N_add 9 = .ok (.iastore, 1) := by decide +kernel
theorem d_N_add_10 : decode b_N_add 10 = .ok (.aload_n 0, 1) := by decide +kernel
theorem d_N_add_11 : decode b_N_add 11 = .ok (.getfield 15, 3) := by decide +kernel
theorem d_N_add_14 : decode b_N_add 14 = .ok (.aload_n 0, 1) := by decide +kernel
theorem d_N_add_15 : decode b_N_add 15 = .ok (.getfield 24, 3) := by decide +kernel
theorem d_N_add_18 : decode b_N_add 18 = .ok (.iload_n 2, 1) := by decide +kernel
theorem d_N_add_19 : decode b_N_add 19 = .ok (.iastore, 1) := by decide +kernel
theorem d_N_add_20 : decode b_N_add 20 = .ok (.aload_n 0, 1) := by decide +kernel
theorem d_N_add_21 : decode b_N_add 21 = .ok (.getfield 18, 3) := by decide +kernel
theorem d_N_add_24 : decode b_N_add 24 = .ok (.aload_n 0, 1) := by decide +kernel
theorem d_N_add_25 : decode b_N_add 25 = .ok (.getfield 24, 3) := by decide +kernel
theorem d_N_add_28 : decode b_N_add 28 = .ok (.iload_n 3, 1) := by decide +kernel
theorem d_N_add_29 : decode b_N_add 29 = .ok (.iastore, 1) := by decide +kernel
theorem d_N_add_30 : decode b_N_add 30 = .ok (.aload_n 0, 1) := by decide +kernel
theorem d_N_add_31 : decode b_N_add 31 = .ok (.getfield 21, 3) := by decide +kernel
theorem d_N_add_34 : decode b_N_add 34 = .ok (.aload_n 0, 1) := by decide +kernel
theorem d_N_add_35 : decode b_N_add 35 = .ok (.getfield 24, 3) := by decide +kernel
theorem d_N_add_38 : decode b_N_add 38 = .ok (.iload 4, 2) := by decide +kernel
theorem d_N_add_40 : decode b_N_add 40 = .ok (.iastore, 1) := by decide +kernel
theorem d_N_add_41 : decode b_N_add 41 = .ok (.aload_n 0, 1) := by decide +kernel
theorem d_N_add_42 : decode b_N_add 42 = .ok (.dup, 1) := by decide +kernel
theorem d_N_add_43 : decode b_N_add 43 = .ok (.getfield 24, 3) := by decide +kernel
theorem d_N_add_46 : decode b_N_add 46 = .ok (.iconst 1, 1) := by decide +kernel
theorem d_N_add_47 : decode b_N_add 47 = .ok (.iadd, 1) := by decide +kernel
theorem d_N_add_48 : decode b_N_add 48 = .ok (.putfield 24, 3) := by decide +kernel
theorem d_N_add_51 : decode b_N_add 51 = .ok (.return_, 1) := by decide +kernel
theorem d_O_init_0 : decode b_O_init 0 = .ok (.aload_n 0, 1) := by decide +kernel
theorem d_O_init_1 : decode b_O_init 1 = .ok (.invokespecial 3, 3) := by decide +kernel
theorem d_O_init_4 : decode b_O_init 4 = .ok (.aload_n 0, 1) := by decide +kernel
theorem d_O_init_5 : decode b_O_init 5 = .ok (.bipush 12, 2) := by decide +kernel
theorem d_O_init_7 : decode b_O_init 7 = .ok (.newarray .int, 2) := by decide +kernel
theorem d_O_init_9 : decode b_O_init 9 = .ok (.putfield 9, 3) := by decide +kernel
theorem d_O_init_12 : decode b_O_init 12 = .ok (.aload_n 0, 1) := by decide +kernel
theorem d_O_init_13 : decode b_O_init 13 = .ok (.bipush 12, 2) := by decide +kernel
theorem d_O_init_15 : decode b_O_init 15 = .ok (.newarray .int, 2) := by decide +kernel
theorem d_O_init_17 : decode b_O_init 17 = .ok (.putfield 15, 3) := by decide +kernel
theorem d_O_init_20 : decode b_O_init 20 = .ok (.aload_n 0, 1) := by decide +kernel
theorem d_O_init_21 : decode b_O_init 21 = .ok (.bipush 12, 2) := by decide +kernel
theorem d_O_init_23 : decode b_O_init 23 = .ok (.newarray .int, 2) := by decide +kernel
theorem d_O_init_25 : decode b_O_init 25 = .ok (.putfield 18, 3) := by decide +kernel
theorem d_O_init_28 : decode b_O_init 28 = .ok (.aload_n 0, 1) := by decide +kernel
theorem d_O_init_29 : decode b_O_init 29 = .ok (.bipush 12, 2) := by decide +kernel
theorem d_O_init_31 : decode b_O_init 31 = .ok (.newarray .int, 2) := by decide +kernel
theorem d_O_init_33 : decode b_O_init 33 = .ok (.putfield 21, 3) := by decide +kernel
theorem d_O_init_36 : decode b_O_init 36 = .ok (.return_, 1) := by decide +kernel
theorem d_O_add_0 : decode b_O_add 0 = .ok (.aload_n 0, 1) := by decide +kernel
theorem d_O_add_1 : decode b_O_add 1 = .ok (.getfield 9, 3) := by decide +kernel
theorem d_O_add_4 : decode b_O_add 4 = .ok (.aload_n 0, 1) := by decide +kernel
theorem d_O_add_5 : decode b_O_add 5 = .ok (.getfield 24, 3) := by decide +kernel
theorem d_O_add_8 : decode b_O_add 8 = .ok (.iload_n 1, 1) := by decide +kernel
theorem d_O_add_9 : decode b_O_add 9 = .ok (.iastore, 1) := by decide +kernel
theorem d_O_add_10 : decode b_O_add 10 = .ok (.aload_n 0, 1) := by decide +kernel
theorem d_O_add_11 : decode b_O_add 11 = .ok (.getfield 15, 3) := by decide +kernel
theorem d_O_add_14 : decode b_O_add 14 = .ok (.aload_n 0, 1) := by decide +kernel
theorem d_O_add_15 : decode b_O_add 15 = .ok (.getfield 24, 3) := by decide +kernel
theorem d_O_add_18 : decode b_O_add 18 = .ok (.iload_n 2, 1) := by decide +kernel
theorem d_O_add_19 : decode b_O_add 19 = .ok (.iastore, 1) := by decide +kernel
theorem d_O_add_20 : decode b_O_add 20 = .ok (.aload_n 0, 1) := by decide +kernel
theorem d_O_add_21 : decode b_O_add 21 = .ok (.getfield 18, 3) := by decide +kernel
theorem d_O_add_24 : decode b_O_add 24 = .ok (.aload_n 0, 1) := by decide +kernel
theorem d_O_add_25 : decode b_O_add 25 = .ok (.getfield 24, 3) := by decide +kernel
theorem d_O_add_28 : decode b_O_add 28 = .ok (.iload_n 3, 1) := by decide +kernel
theorem d_O_add_29 : decode b_O_add 29 = .ok (.iastore, 1) := by decide +kernel
theorem d_O_add_30 : decode b_O_add 30 = .ok (.aload_n 0, 1) := by decide +kernel
theorem d_O_add_31 : decode b_O_add 31 = .ok (.getfield 21, 3) := by decide +kernel
theorem d_O_add_34 : decode b_O_add 34 = .ok (.aload_n 0, 1) := by decide +kernel
theorem d_O_add_35 : decode b_O_add 35 = .ok (.getfield 24, 3) := by decide +kernel
theorem d_O_add_38 : decode b_O_add 38 = .ok (.iload 4, 2) := by decide +kernel
theorem d_O_add_40 : decode b_O_add 40 = .ok (.iastore, 1) := by decide +kernel
theorem d_O_add_41 : decode b_O_add 41 = .ok (.aload_n 0, 1) := by decide +kernel
theorem d_O_add_42 : decode b_O_add 42 = .ok (.dup, 1) := by decide +kernel
theorem d_O_add_43 : decode b_O_add 43 = .ok (.getfield 24, 3) := by decide +kernel
theorem d_O_add_46 : decode b_O_add 46 = .ok (.iconst 1, 1) := by decide +kernel
theorem d_O_add_47 : decode b_O_add 47 = .ok (.iadd, 1) := by decide +kernel
theorem d_O_add_48 : decode b_O_add 48 = .ok (.putfield 24, 3) := by decide +kernel
theorem d_O_add_51 : decode b_O_add 51 = .ok (.aload_n 0, 1) := by decide +kernel
theorem d_O_add_52 : decode b_O_add 52 = .ok (.getfield 24, 3) := by decide +kernel
theorem d_O_add_55 : decode b_O_add 55 = .ok (.iconst 1, 1) := by decide +kernel
theorem d_O_add_56 : decode b_O_add 56 = .ok (.isub, 1) := by decide +kernel
theorem d_O_add_57 : decode b_O_add 57 = .ok (.ireturn, 1) := by decide +kernel
theorem d_S_init_0 : decode b_S_init 0 = .ok (.aload_n 0, 1) := by decide +kernel
theorem d_S_init_1 : decode b_S_init 1 = .ok (.invokespecial 3, 3) := by decide +kernel
theorem d_S_init_4 : decode b_S_init 4 = .ok (.aload_n 0, 1) := by decide +kernel
theorem d_S_init_5 : decode b_S_init 5 = .ok (.iload_n 1, 1) := by decide +kernel
theorem d_S_init_6 : decode b_S_init 6 = .ok (.putfield 9, 3) := by decide +kernel
theorem d_S_init_9 : decode b_S_init 9 = .ok (.aload_n 0, 1) := by decide +kernel
theorem d_S_init_10 : decode b_S_init 10 = .ok (.iload_n 2, 1) := by decide +kernel
theorem d_S_init_11 : decode b_S_init 11 = .ok (.putfield 15, 3) := by decide +kernel
theorem d_S_init_14 : decode b_S_init 14 = .ok (.aload_n 0, 1) := by decide +kernel
theorem d_S_init_15 : decode b_S_init 15 = .ok (.iload_n 3, 1) := by decide +kernel
theorem d_S_init_16 : decode b_S_init 16 = .ok (.putfield 18, 3) := by decide +kernel
theorem d_S_init_19 : decode b_S_init 19 = .ok (.aload_n 0, 1) := by decide +kernel
theorem d_S_init_20 : decode b_S_init 20 = .ok (.iload 4, 2) := by decide +kernel
theorem d_S_init_22 : decode b_S_init 22 = .ok (.putfield 21, 3) := by decide +kernel
theorem d_S_init_25 : decode b_S_init 25 = .ok (.aload_n 0, 1) := by decide +kernel
theorem d_S_init_26 : decode b_S_init 26 = .ok (.bipush 12, 2) := by decide +kernel
theorem d_S_init_28 : decode b_S_init 28 = .ok (.newarray .int, 2) := by decide +kernel
theorem d_S_init_30 : decode b_S_init 30 = .ok (.putfield 24, 3) := by decide +kernel
theorem d_S_init_33 : decode b_S_init 33 = .ok (.aload_n 0, 1) := by decide +kernel
theorem d_S_init_34 : decode b_S_init 34 = .ok (.bipush 12, 2) := by decide +kernel
theorem d_S_init_36 : decode b_S_init 36 = .ok (.newarray .int, 2) := by decide +kernel
theorem d_S_init_38 : decode b_S_init 38 = .ok (.putfield 28, 3) := by decide +kernel
theorem d_S_init_41 : decode b_S_init 41 = .ok (.return_, 1) := by decide +kernel
theorem d_S_addCorner_0 : decode b_S_addCorner 0 = .ok (.aload_n 0, 1) := by decide +kernel
theorem d_S_addCorner_1 : decode b_S_addCorner 1 = .ok (.getfield 24, 3) := by decide +kernel
theorem d_S_addCorner_4 : decode b_S_addCorner 4 = .ok (.aload_n 0, 1) := by decide +kernel
theorem d_S_addCorner_5 : decode b_S_addCorner 5 = .ok (.getfield 34, 3) := by decide +kernel
theorem d_S_addCorner_8 : decode b_S_addCorner 8 = .ok (.iload_n 1, 1) := by decide +kernel
theorem d_S_addCorner_9 : decode b_S_addCorner 9 = .ok (.iastore, 1) := by decide +kernel
theorem d_S_addCorner_10 : decode b_S_addCorner 10 = .ok (.aload_n 0, 1) := by decide +kernel
theorem d_S_addCorner_11 : decode b_S_addCorner 11 = .ok (.getfield 28, 3) := by decide +kernel
theorem d_S_addCorner_14 : decode b_S_addCorner 14 = .ok (.aload_n 0, 1) := by decide +kernel
theorem d_S_addCorner_15 : decode b_S_addCorner 15 = .ok (.getfield 34, 3) := by decide +kernel
theorem d_S_addCorner_18 : decode b_S_addCorner 18 = .ok (.iload_n 2, 1) := by decide +kernel
theorem d_S_addCorner_19 : decode b_S_addCorner 19 = .ok (.iastore, 1) := by decide +kernel
theorem d_S_addCorner_20 : decode b_S_addCorner 20 = .ok (.aload_n 0, 1) := by decide +kernel
theorem d_S_addCorner_21 : decode b_S_addCorner 21 = .ok (.dup, 1) := by decide +kernel
theorem d_S_addCorner_22 : decode b_S_addCorner 22 = .ok (.getfield 34, 3) := by decide +kernel
theorem d_S_addCorner_25 : decode b_S_addCorner 25 = .ok (.iconst 1, 1) := by decide +kernel
theorem d_S_addCorner_26 : decode b_S_addCorner 26 = .ok (.iadd, 1) := by decide +kernel
theorem d_S_addCorner_27 : decode b_S_addCorner 27 = .ok (.putfield 34, 3) := by decide +kernel
theorem d_S_addCorner_30 : decode b_S_addCorner 30 = .ok (.aload_n 0, 1) := by decide +kernel
theorem d_S_addCorner_31 : decode b_S_addCorner 31 = .ok (.getfield 34, 3) := by decide +kernel
theorem d_S_addCorner_34 : decode b_S_addCorner 34 = .ok (.ireturn, 1) := by decide +kernel
theorem d_S_leavePartner_0 : decode b_S_leavePartner 0 = .ok (.aload_n 0, 1) := by decide +kernel
theorem d_S_leavePartner_1 : decode b_S_leavePartner 1 = .ok (.getfield 41, 3) := by decide +kernel
theorem d_S_leavePartner_4 : decode b_S_leavePartner 4 = .ok (.ifnull 16, 3) := by decide +kernel
theorem d_S_leavePartner_7 : decode b_S_leavePartner 7 = .ok (.aload_n 0, 1) := by decide +kernel
theorem d_S_leavePartner_8 : decode b_S_leavePartner 8 = .ok (.getfield 41, 3) := by decide +kernel
theorem d_S_leavePartner_11 : decode b_S_leavePartner 11 = .ok (.aconst_null, 1) := by decide +kernel
theorem d_S_leavePartner_12 : decode b_S_leavePartner 12 = .ok (.putfield 41, 3) := by decide +kernel
theorem d_S_leavePartner_15 : decode b_S_leavePartner 15 = .ok (.aload_n 0, 1) := by decide +kernel
theorem d_S_leavePartner_16 : decode b_S_leavePartner 16 = .ok (.aconst_null, 1) := by decide +kernel
theorem d_S_leavePartner_17 : decode b_S_leavePartner 17 = .ok (.putfield 41, 3) := by decide +kernel
theorem d_S_leavePartner_20 : decode b_S_leavePartner 20 = .ok (.return_, 1) := by decide +kernel
theorem z_O.lt {D : va_G} {H : Heap} {a ci : Nat} {fs : List Value} (h : z_O D H a ci fs) : a < H.size := va_at.lt h
theorem z_A.lt {cI : ClassId} {H : Heap} {a n : Nat} {f : Nat → Int32} (h : z_A cI H a n f) : a < H.size := (Array.getElem?_eq_some_iff.mp h).1
/-- the addresses of a new object of the class, of the reference -/
def z_A0 (a sz : Nat) : Nat → Nat := fun k => if k = 0 then a else if k = 1 then sz + 2 else if k = 2 then sz + 7 else if k = 3 then sz + 1 else if k = 4 then sz else if k < 9 then sz + (k - 2) else sz + (k - 1)
def z_E0 (a sz : Nat) : Nat → Nat := fun k => if k = 0 then a else sz + (k - 1)
theorem z_A0_inj {a sz : Nat} (ha : a < sz) : ∀ i j, i < 13 → j < 13 → z_A0 a sz i = z_A0 a sz j → i = j := by
  intro i j hi hj h
  unfold z_A0 at h
  repeat' split at h
  all_goals omega
theorem z_E0_inj {a sz : Nat} (ha : a < sz) : ∀ i j, i < 18 → j < 18 → z_E0 a sz i = z_E0 a sz j → i = j := by
  intro i j hi hj h
  unfold z_E0 at h
  repeat' split at h
  all_goals omega
theorem z_BD0 {D : va_G} {cI cS : ClassId} {H : Heap} {a sz : Nat} (ha : a < sz) (hO : z_O D H a 3 [.ref sz, .int 0, .ref (sz + 1), .int 0, .int 0, .ref (sz + 2), .ref (sz + 7)])
    (h1 : z_O D H (sz + 2) 0 [.ref (sz + 3), .ref (sz + 4), .ref (sz + 5), .ref (sz + 6), .int 0]) (h2 : z_O D H (sz + 7) 1 [.ref (sz + 8), .ref (sz + 9), .ref (sz + 10), .ref (sz + 11), .int 0]) (h3 : z_B cS H (sz + 1) 32 (fun _ => none))
    (a0 : z_A cI H sz 16 (fun _ => 0)) (a1 : z_A cI H (sz + 3) 40 (fun _ => 0)) (a2 : z_A cI H (sz + 4) 40 (fun _ => 0)) (a3 : z_A cI H (sz + 5) 40 (fun _ => 0)) (a4 : z_A cI H (sz + 6) 40 (fun _ => 0)) (a5 : z_A cI H (sz + 8) 12 (fun _ => 0)) (a6 : z_A cI H (sz + 9) 12 (fun _ => 0)) (a7 : z_A cI H (sz + 10) 12 (fun _ => 0)) (a8 : z_A cI H (sz + 11) 12 (fun _ => 0)) :
    z_BD D cI cS H (z_A0 a sz) 0 0 0 0 0 (fun _ _ => 0) (fun _ => 0) (fun _ => 0) (fun _ => 0) (fun _ => 0) (fun _ => 0) (fun _ => none) (fun _ _ => 0) (fun _ _ => 0) := by
  refine ⟨⟨hO, h1, h2, h3, fun k hk => ?_, fun i hi => absurd hi (Nat.not_lt_zero _)⟩, fun i j hi hj => z_A0_inj ha i j (by omega) (by omega), ⟨by omega, by omega, by omega, by omega, by omega⟩, fun i hi => absurd hi (Nat.not_lt_zero _)⟩
  have hk' : k = 0 ∨ k = 1 ∨ k = 2 ∨ k = 3 ∨ k = 4 ∨ k = 5 ∨ k = 6 ∨ k = 7 ∨ k = 8 := by omega
  rcases hk' with rfl | rfl | rfl | rfl | rfl | rfl | rfl | rfl | rfl
  · exact a0
  · exact a1
  · exact a2
  · exact a3
  · exact a4
  · exact a5
  · exact a6
  · exact a7
  · exact a8
theorem z_Md0 {D : va_G} {cI : ClassId} {H : Heap} {a sz : Nat} (ha : a < sz) (hO : z_O D H a 4 [.int 0, .int 0, .ref sz, .int 0, .ref (sz + 1), .ref (sz + 2), .ref (sz + 3), .ref (sz + 4), .ref (sz + 5), .ref (sz + 6), .ref (sz + 7), .int 0, .ref (sz + 8), .int 0, .ref (sz + 9), .ref (sz + 10), .ref (sz + 11), .ref (sz + 12), .int 0, .ref (sz + 13), .ref (sz + 14), .ref (sz + 15), .ref (sz + 16)])
    (a0 : z_A cI H sz 16 (fun _ => 0)) (a1 : z_A cI H (sz + 1) 32 (fun _ => 0)) (a2 : z_A cI H (sz + 2) 32 (fun _ => 0)) (a3 : z_A cI H (sz + 3) 32 (fun _ => 0)) (a4 : z_A cI H (sz + 4) 32 (fun _ => 0)) (a5 : z_A cI H (sz + 5) 384 (fun _ => 0)) (a6 : z_A cI H (sz + 6) 384 (fun _ => 0)) (a7 : z_A cI H (sz + 7) 32 (fun _ => 0)) (a8 : z_A cI H (sz + 8) 32 (fun _ => 0))
    (a9 : z_A cI H (sz + 9) 40 (fun _ => 0)) (a10 : z_A cI H (sz + 10) 40 (fun _ => 0)) (a11 : z_A cI H (sz + 11) 40 (fun _ => 0)) (a12 : z_A cI H (sz + 12) 40 (fun _ => 0)) (a13 : z_A cI H (sz + 13) 12 (fun _ => 0)) (a14 : z_A cI H (sz + 14) 12 (fun _ => 0)) (a15 : z_A cI H (sz + 15) 12 (fun _ => 0)) (a16 : z_A cI H (sz + 16) 12 (fun _ => 0)) :
    z_Md D cI H (z_E0 a sz) 0 0 0 0 0 0 (fun _ _ => 0) := by
  refine ⟨⟨hO, fun k hk => ?_⟩, z_E0_inj ha, ⟨by omega, by omega, by omega, by omega, by omega⟩⟩
  have hk' : k = 0 ∨ k = 1 ∨ k = 2 ∨ k = 3 ∨ k = 4 ∨ k = 5 ∨ k = 6 ∨ k = 7 ∨ k = 8 ∨ k = 9 ∨ k = 10 ∨ k = 11 ∨ k = 12 ∨ k = 13 ∨ k = 14 ∨ k = 15 ∨ k = 16 := by omega
  rcases hk' with rfl | rfl | rfl | rfl | rfl | rfl | rfl | rfl | rfl | rfl | rfl | rfl | rfl | rfl | rfl | rfl | rfl
  · exact a0
  · exact a1
  · exact a2
  · exact a3
  · exact a4
  · exact a5
  · exact a6
  · exact a7
  · exact a8
  · exact a9
  · exact a10
  · exact a11
  · exact a12
  · exact a13
  · exact a14
  · exact a15
  · exact a16
