theorem d_B_init_0 : decode b_B_init 0 = .ok (.aload_n 0, 1) := by decide +kernel
theorem d_B_init_1 : decode b_B_init 1 = .ok (.invokespecial 1, 3) := by decide +kernel
theorem d_B_init_4 : decode b_B_init 4 = .ok (.aload_n 0, 1) := by decide +kernel
theorem d_B_init_5 : decode b_B_init 5 = .ok (.bipush 16, 2) := by decide +kernel
theorem d_B_init_7 : decode b_B_init 7 = .ok (.newarray .int, 2) := by decide +kernel
theorem d_B_init_9 : decode b_B_init 9 = .ok (.putfield 9, 3) := by decide +kernel
theorem d_B_init_12 : decode b_B_init 12 = .ok (.aload_n 0, 1) := by decide +kernel
theorem d_B_init_13 : decode b_B_init 13 = .ok (.bipush 32, 2) := by decide +kernel
theorem d_B_init_15 : decode b_B_init 15 = .ok (.anewarray 13, 3) := by decide +kernel
theorem d_B_init_18 : decode b_B_init 18 = .ok (.putfield 15, 3) := by decide +kernel
theorem d_B_init_21 : decode b_B_init 21 = .ok (.aload_n 0, 1) := by decide +kernel
theorem d_B_init_22 : decode b_B_init 22 = .ok (.new 19, 3) := by decide +kernel
theorem d_B_init_25 : decode b_B_init 25 = .ok (.dup, 1) := by decide +kernel
theorem d_B_init_26 : decode b_B_init 26 = .ok (.invokespecial 21, 3) := by decide +kernel
theorem d_B_init_29 : decode b_B_init 29 = .ok (.putfield 22, 3) := by decide +kernel
theorem d_B_init_32 : decode b_B_init 32 = .ok (.aload_n 0, 1) := by decide +kernel
theorem d_B_init_33 : decode b_B_init 33 = .ok (.new 26, 3) := by decide +kernel
theorem d_B_init_36 : decode b_B_init 36 = .ok (.dup, 1) := by decide +kernel
theorem d_B_init_37 : decode b_B_init 37 = .ok (.invokespecial 28, 3) := by decide +kernel
theorem d_B_init_40 : decode b_B_init 40 = .ok (.putfield 29, 3) := by decide +kernel
theorem d_B_init_43 : decode b_B_init 43 = .ok (.return_, 1) := by decide +kernel
theorem d_B_place_0 : decode b_B_place 0 = .ok (.iload_n 1, 1) := by decide +kernel
theorem d_B_place_1 : decode b_B_place 1 = .ok (.iconst (-1), 1) := by decide +kernel
theorem d_B_place_2 : decode b_B_place 2 = .ok (.if_icmp .eq 8, 3) := by decide +kernel
theorem d_B_place_5 : decode b_B_place 5 = .ok (.aload_n 0, 1) := by decide +kernel
theorem d_B_place_6 : decode b_B_place 6 = .ok (.iload_n 1, 1) := by decide +kernel
theorem d_B_place_7 : decode b_B_place 7 = .ok (.invokevirtual 33, 3) := by decide +kernel
theorem d_B_place_10 : decode b_B_place 10 = .ok (.aload_n 0, 1) := by decide +kernel
theorem d_B_place_11 : decode b_B_place 11 = .ok (.getfield 37, 3) := by decide +kernel
theorem d_B_place_14 : decode b_B_place 14 = .ok (.bipush 16, 2) := by decide +kernel
theorem d_B_place_16 : decode b_B_place 16 = .ok (.if_icmp .lt 13, 3) := by decide +kernel
theorem d_B_place_19 : decode b_B_place 19 = .ok (.new 41, 3) := by decide +kernel
theorem d_B_place_22 : decode b_B_place 22 = .ok (.dup, 1) := by decide +kernel
theorem d_B_place_23 : decode b_B_place 23 = .ok (.ldc 43, 2) := by decide +kernel
theorem d_B_place_25 : decode b_B_place 25 = .ok (.invokespecial 45, 3) := by decide +kernel
theorem d_B_place_28 : decode b_B_place 28 = .ok (.athrow, 1) := by decide +kernel
theorem d_B_place_29 : decode b_B_place 29 = .ok (.aload_n 0, 1) := by decide +kernel
theorem d_B_place_30 : decode b_B_place 30 = .ok (.getfield 9, 3) := by decide +kernel
theorem d_B_place_33 : decode b_B_place 33 = .ok (.aload_n 0, 1) := by decide +kernel
theorem d_B_place_34 : decode b_B_place 34 = .ok (.getfield 37, 3) := by decide +kernel
theorem d_B_place_37 : decode b_B_place 37 = .ok (.iload_n 1, 1) := by decide +kernel
theorem d_B_place_38 : decode b_B_place 38 = .ok (.iastore, 1) := by decide +kernel
theorem d_B_place_39 : decode b_B_place 39 = .ok (.aload_n 0, 1) := by decide +kernel
theorem d_B_place_40 : decode b_B_place 40 = .ok (.dup, 1) := by decide +kernel
theorem d_B_place_41 : decode b_B_place 41 = .ok (.getfield 37, 3) := by decide +kernel
theorem d_B_place_44 : decode b_B_place 44 = .ok (.iconst 1, 1) := by decide +kernel
theorem d_B_place_45 : decode b_B_place 45 = .ok (.iadd, 1) := by decide +kernel
theorem d_B_place_46 : decode b_B_place 46 = .ok (.putfield 37, 3) := by decide +kernel
theorem d_B_place_49 : decode b_B_place 49 = .ok (.aload_n 0, 1) := by decide +kernel
theorem d_B_place_50 : decode b_B_place 50 = .ok (.getfield 37, 3) := by decide +kernel
theorem d_B_place_53 : decode b_B_place 53 = .ok (.iconst 1, 1) := by decide +kernel
theorem d_B_place_54 : decode b_B_place 54 = .ok (.isub, 1) := by decide +kernel
theorem d_B_place_55 : decode b_B_place 55 = .ok (.ireturn, 1) := by decide +kernel
theorem d_B_shape_0 : decode b_B_shape 0 = .ok (.aload_n 0, 1) := by decide +kernel
theorem d_B_shape_1 : decode b_B_shape 1 = .ok (.iload_n 1, 1) := by decide +kernel
theorem d_B_shape_2 : decode b_B_shape 2 = .ok (.invokevirtual 33, 3) := by decide +kernel
theorem d_B_shape_5 : decode b_B_shape 5 = .ok (.iload_n 2, 1) := by decide +kernel
theorem d_B_shape_6 : decode b_B_shape 6 = .ok (.iload_n 3, 1) := by decide +kernel
theorem d_B_shape_7 : decode b_B_shape 7 = .ok (.invokestatic 48, 3) := by decide +kernel
theorem d_B_shape_10 : decode b_B_shape 10 = .ok (.aload_n 0, 1) := by decide +kernel
theorem d_B_shape_11 : decode b_B_shape 11 = .ok (.getfield 52, 3) := by decide +kernel
theorem d_B_shape_14 : decode b_B_shape 14 = .ok (.bipush 32, 2) := by decide +kernel
theorem d_B_shape_16 : decode b_B_shape 16 = .ok (.if_icmp .lt 13, 3) := by decide +kernel
theorem d_B_shape_19 : decode b_B_shape 19 = .ok (.new 41, 3) := by decide +kernel
theorem d_B_shape_22 : decode b_B_shape 22 = .ok (.dup, 1) := by decide +kernel
theorem d_B_shape_23 : decode b_B_shape 23 = .ok (.ldc 55, 2) := by decide +kernel
theorem d_B_shape_25 : decode b_B_shape 25 = .ok (.invokespecial 45, 3) := by decide +kernel
theorem d_B_shape_28 : decode b_B_shape 28 = .ok (.athrow, 1) := by decide +kernel
theorem d_B_shape_29 : decode b_B_shape 29 = .ok (.aload_n 0, 1) := by decide +kernel
theorem d_B_shape_30 : decode b_B_shape 30 = .ok (.getfield 15, 3) := by decide +kernel
theorem d_B_shape_33 : decode b_B_shape 33 = .ok (.aload_n 0, 1) := by decide +kernel
theorem d_B_shape_34 : decode b_B_shape 34 = .ok (.getfield 52, 3) := by decide +kernel
theorem d_B_shape_37 : decode b_B_shape 37 = .ok (.new 13, 3) := by decide +kernel
theorem d_B_shape_40 : decode b_B_shape 40 = .ok (.dup, 1) := by decide +kernel
theorem d_B_shape_41 : decode b_B_shape 41 = .ok (.aload_n 0, 1) := by decide +kernel
theorem d_B_shape_42 : decode b_B_shape 42 = .ok (.getfield 52, 3) := by decide +kernel
theorem d_B_shape_45 : decode b_B_shape 45 = .ok (.iload_n 1, 1) := by decide +kernel
theorem d_B_shape_46 : decode b_B_shape 46 = .ok (.iload_n 2, 1) := by decide +kernel
theorem d_B_shape_47 : decode b_B_shape 47 = .ok (.iload_n 3, 1) := by decide +kernel
theorem d_B_shape_48 : decode b_B_shape 48 = .ok (.invokespecial 57, 3) := by decide +kernel
theorem d_B_shape_51 : decode b_B_shape 51 = .ok (.aastore, 1) := by decide +kernel
theorem d_B_shape_52 : decode b_B_shape 52 = .ok (.aload_n 0, 1) := by decide +kernel
theorem d_B_shape_53 : decode b_B_shape 53 = .ok (.dup, 1) := by decide +kernel
theorem d_B_shape_54 : decode b_B_shape 54 = .ok (.getfield 52, 3) := by decide +kernel
theorem d_B_shape_57 : decode b_B_shape 57 = .ok (.iconst 1, 1) := by decide +kernel
theorem d_B_shape_58 : decode b_B_shape 58 = .ok (.iadd, 1) := by decide +kernel
theorem d_B_shape_59 : decode b_B_shape 59 = .ok (.putfield 52, 3) := by decide +kernel
theorem d_B_shape_62 : decode b_B_shape 62 = .ok (.aload_n 0, 1) := by decide +kernel
theorem d_B_shape_63 : decode b_B_shape 63 = .ok (.getfield 52, 3) := by decide +kernel
theorem d_B_shape_66 : decode b_B_shape 66 = .ok (.iconst 1, 1) := by decide +kernel
theorem d_B_shape_67 : decode b_B_shape 67 = .ok (.isub, 1) := by decide +kernel
theorem d_B_shape_68 : decode b_B_shape 68 = .ok (.ireturn, 1) := by decide +kernel
theorem d_B_corner_0 : decode b_B_corner 0 = .ok (.aload_n 0, 1) := by decide +kernel
theorem d_B_corner_1 : decode b_B_corner 1 = .ok (.iload_n 1, 1) := by decide +kernel
theorem d_B_corner_2 : decode b_B_corner 2 = .ok (.invokevirtual 60, 3) := by decide +kernel
theorem d_B_corner_5 : decode b_B_corner 5 = .ok (.astore 4, 2) := by decide +kernel
theorem d_B_corner_7 : decode b_B_corner 7 = .ok (.iload_n 2, 1) := by decide +kernel
theorem d_B_corner_8 : decode b_B_corner 8 = .ok (.iload_n 3, 1) := by decide +kernel
theorem d_B_corner_9 : decode b_B_corner 9 = .ok (.invokestatic 64, 3) := by decide +kernel
theorem d_B_corner_12 : decode b_B_corner 12 = .ok (.aload 4, 2) := by decide +kernel
theorem d_B_corner_14 : decode b_B_corner 14 = .ok (.invokevirtual 67, 3) := by decide +kernel
theorem d_B_corner_17 : decode b_B_corner 17 = .ok (.ifCond .ne 11, 3) := by decide +kernel
theorem d_B_corner_20 : decode b_B_corner 20 = .ok (.aload 4, 2) := by decide +kernel
theorem d_B_corner_22 : decode b_B_corner 22 = .ok (.invokevirtual 71, 3) := by decide +kernel
theorem d_B_corner_25 : decode b_B_corner 25 = .ok (.ifCond .eq 13, 3) := by decide +kernel
theorem d_B_corner_28 : decode b_B_corner 28 = .ok (.new 41, 3) := by decide +kernel
theorem d_B_corner_31 : decode b_B_corner 31 = .ok (.dup, 1) := by decide +kernel
theorem d_B_corner_32 : decode b_B_corner 32 = .ok (.ldc 74, 2) := by decide +kernel
theorem d_B_corner_34 : decode b_B_corner 34 = .ok (.invokespecial 45, 3) := by decide +kernel
theorem d_B_corner_37 : decode b_B_corner 37 = .ok (.athrow, 1) := by decide +kernel
theorem d_B_corner_38 : decode b_B_corner 38 = .ok (.aload 4, 2) := by decide +kernel
theorem d_B_corner_40 : decode b_B_corner 40 = .ok (.iload_n 2, 1) := by decide +kernel
theorem d_B_corner_41 : decode b_B_corner 41 = .ok (.iload_n 3, 1) := by decide +kernel
theorem d_B_corner_42 : decode b_B_corner 42 = .ok (.invokevirtual 76, 3) := by decide +kernel
theorem d_B_corner_45 : decode b_B_corner 45 = .ok (.ireturn, 1) := by decide +kernel
theorem d_B_close_0 : decode b_B_close 0 = .ok (.aload_n 0, 1) := by decide +kernel
theorem d_B_close_1 : decode b_B_close 1 = .ok (.iload_n 1, 1) := by decide +kernel
theorem d_B_close_2 : decode b_B_close 2 = .ok (.invokevirtual 60, 3) := by decide +kernel
theorem d_B_close_5 : decode b_B_close 5 = .ok (.astore_n 2, 1) := by decide +kernel
theorem d_B_close_6 : decode b_B_close 6 = .ok (.aload_n 2, 1) := by decide +kernel
theorem d_B_close_7 : decode b_B_close 7 = .ok (.invokevirtual 80, 3) := by decide +kernel
theorem d_B_close_10 : decode b_B_close 10 = .ok (.ifCond .ne 5, 3) := by decide +kernel
theorem d_B_close_13 : decode b_B_close 13 = .ok (.iconst 0, 1) := by decide +kernel
theorem d_B_close_14 : decode b_B_close 14 = .ok (.ireturn, 1) := by decide +kernel
theorem d_B_close_15 : decode b_B_close 15 = .ok (.aload_n 0, 1) := by decide +kernel
theorem d_B_close_16 : decode b_B_close 16 = .ok (.dup, 1) := by decide +kernel
theorem d_B_close_17 : decode b_B_close 17 = .ok (.getfield 83, 3) := by decide +kernel
theorem d_B_close_20 : decode b_B_close 20 = .ok (.iconst 1, 1) := by decide +kernel
theorem d_B_close_21 : decode b_B_close 21 = .ok (.iadd, 1) := by decide +kernel
theorem d_B_close_22 : decode b_B_close 22 = .ok (.putfield 83, 3) := by decide +kernel
theorem d_B_close_25 : decode b_B_close 25 = .ok (.aload_n 2, 1) := by decide +kernel
theorem d_B_close_26 : decode b_B_close 26 = .ok (.aload_n 0, 1) := by decide +kernel
theorem d_B_close_27 : decode b_B_close 27 = .ok (.getfield 83, 3) := by decide +kernel
theorem d_B_close_30 : decode b_B_close 30 = .ok (.putfield 86, 3) := by decide +kernel
theorem d_B_close_33 : decode b_B_close 33 = .ok (.iconst 1, 1) := by decide +kernel
theorem d_B_close_34 : decode b_B_close 34 = .ok (.ireturn, 1) := by decide +kernel
theorem d_B_unsure_0 : decode b_B_unsure 0 = .ok (.aload_n 0, 1) := by decide +kernel
theorem d_B_unsure_1 : decode b_B_unsure 1 = .ok (.iload_n 1, 1) := by decide +kernel
theorem d_B_unsure_2 : decode b_B_unsure 2 = .ok (.invokevirtual 60, 3) := by decide +kernel
theorem d_B_unsure_5 : decode b_B_unsure 5 = .ok (.astore_n 3, 1) := by decide +kernel
theorem d_B_unsure_6 : decode b_B_unsure 6 = .ok (.aload_n 0, 1) := by decide +kernel
theorem d_B_unsure_7 : decode b_B_unsure 7 = .ok (.iload_n 2, 1) := by decide +kernel
theorem d_B_unsure_8 : decode b_B_unsure 8 = .ok (.invokevirtual 60, 3) := by decide +kernel
theorem d_B_unsure_11 : decode b_B_unsure 11 = .ok (.astore 4, 2) := by decide +kernel
theorem d_B_unsure_13 : decode b_B_unsure 13 = .ok (.aload_n 3, 1) := by decide +kernel
theorem d_B_unsure_14 : decode b_B_unsure 14 = .ok (.aload 4, 2) := by decide +kernel
theorem d_B_unsure_16 : decode b_B_unsure 16 = .ok (.if_acmp .eq 30, 3) := by decide +kernel
theorem d_B_unsure_19 : decode b_B_unsure 19 = .ok (.aload_n 3, 1) := by decide +kernel
theorem d_B_unsure_20 : decode b_B_unsure 20 = .ok (.getfield 89, 3) := by decide +kernel
theorem d_B_unsure_23 : decode b_B_unsure 23 = .ok (.aload 4, 2) := by decide +kernel
theorem d_B_unsure_25 : decode b_B_unsure 25 = .ok (.getfield 89, 3) := by decide +kernel
theorem d_B_unsure_28 : decode b_B_unsure 28 = .ok (.if_icmp .ne 18, 3) := by decide +kernel
theorem d_B_unsure_31 : decode b_B_unsure 31 = .ok (.aload_n 3, 1) := by decide +kernel
theorem d_B_unsure_32 : decode b_B_unsure 32 = .ok (.invokevirtual 67, 3) := by decide +kernel
theorem d_B_unsure_35 : decode b_B_unsure 35 = .ok (.ifCond .eq 11, 3) := by decide +kernel
theorem d_B_unsure_38 : decode b_B_unsure 38 = .ok (.aload 4, 2) := by decide +kernel
theorem d_B_unsure_40 : decode b_B_unsure 40 = .ok (.invokevirtual 67, 3) := by decide +kernel
theorem d_B_unsure_43 : decode b_B_unsure 43 = .ok (.ifCond .ne 5, 3) := by decide +kernel
theorem d_B_unsure_46 : decode b_B_unsure 46 = .ok (.iconst 0, 1) := by decide +kernel
theorem d_B_unsure_47 : decode b_B_unsure 47 = .ok (.ireturn, 1) := by decide +kernel
theorem d_B_unsure_48 : decode b_B_unsure 48 = .ok (.aload_n 3, 1) := by decide +kernel
theorem d_B_unsure_49 : decode b_B_unsure 49 = .ok (.invokevirtual 92, 3) := by decide +kernel
theorem d_B_unsure_52 : decode b_B_unsure 52 = .ok (.aload 4, 2) := by decide +kernel
theorem d_B_unsure_54 : decode b_B_unsure 54 = .ok (.invokevirtual 92, 3) := by decide +kernel
theorem d_B_unsure_57 : decode b_B_unsure 57 = .ok (.aload_n 3, 1) := by decide +kernel
theorem d_B_unsure_58 : decode b_B_unsure 58 = .ok (.aload 4, 2) := by decide +kernel
theorem d_B_unsure_60 : decode b_B_unsure 60 = .ok (.putfield 95, 3) := by decide +kernel
theorem d_B_unsure_63 : decode b_B_unsure 63 = .ok (.aload 4, 2) := by decide +kernel
theorem d_B_unsure_65 : decode b_B_unsure 65 = .ok (.aload_n 3, 1) := by decide +kernel
theorem d_B_unsure_66 : decode b_B_unsure 66 = .ok (.putfield 95, 3) := by decide +kernel
theorem d_B_unsure_69 : decode b_B_unsure 69 = .ok (.iconst 1, 1) := by decide +kernel
theorem d_B_unsure_70 : decode b_B_unsure 70 = .ok (.ireturn, 1) := by decide +kernel
theorem d_B_force_0 : decode b_B_force 0 = .ok (.aload_n 0, 1) := by decide +kernel
theorem d_B_force_1 : decode b_B_force 1 = .ok (.iload_n 1, 1) := by decide +kernel
theorem d_B_force_2 : decode b_B_force 2 = .ok (.invokevirtual 33, 3) := by decide +kernel
theorem d_B_force_5 : decode b_B_force 5 = .ok (.iload_n 2, 1) := by decide +kernel
theorem d_B_force_6 : decode b_B_force 6 = .ok (.invokestatic 99, 3) := by decide +kernel
theorem d_B_force_9 : decode b_B_force 9 = .ok (.aload_n 0, 1) := by decide +kernel
theorem d_B_force_10 : decode b_B_force 10 = .ok (.iload_n 1, 1) := by decide +kernel
theorem d_B_force_11 : decode b_B_force 11 = .ok (.iload_n 2, 1) := by decide +kernel
theorem d_B_force_12 : decode b_B_force 12 = .ok (.invokevirtual 102, 3) := by decide +kernel
theorem d_B_force_15 : decode b_B_force 15 = .ok (.astore_n 3, 1) := by decide +kernel
theorem d_B_force_16 : decode b_B_force 16 = .ok (.aload_n 3, 1) := by decide +kernel
theorem d_B_force_17 : decode b_B_force 17 = .ok (.ifnonnull 7, 3) := by decide +kernel
theorem d_B_force_20 : decode b_B_force 20 = .ok (.iconst (-1), 1) := by decide +kernel
theorem d_B_force_21 : decode b_B_force 21 = .ok (.goto 7, 3) := by decide +kernel
theorem d_B_force_24 : decode b_B_force 24 = .ok (.aload_n 3, 1) := by decide +kernel
theorem d_B_force_25 : decode b_B_force 25 = .ok (.getfield 106, 3) := by decide +kernel
theorem d_B_force_28 : decode b_B_force 28 = .ok (.ireturn, 1) := by decide +kernel
theorem d_B_inside_0 : decode b_B_inside 0 = .ok (.iload 4, 2) := by decide +kernel
theorem d_B_inside_2 : decode b_B_inside 2 = .ok (.invokestatic 109, 3) := by decide +kernel
theorem d_B_inside_5 : decode b_B_inside 5 = .ok (.iload_n 1, 1) := by decide +kernel
theorem d_B_inside_6 : decode b_B_inside 6 = .ok (.iload_n 2, 1) := by decide +kernel
theorem d_B_inside_7 : decode b_B_inside 7 = .ok (.invokestatic 64, 3) := by decide +kernel
theorem d_B_inside_10 : decode b_B_inside 10 = .ok (.iload_n 3, 1) := by decide +kernel
theorem d_B_inside_11 : decode b_B_inside 11 = .ok (.invokestatic 99, 3) := by decide +kernel
theorem d_B_inside_14 : decode b_B_inside 14 = .ok (.iload 4, 2) := by decide +kernel
theorem d_B_inside_16 : decode b_B_inside 16 = .ok (.istore 5, 2) := by decide +kernel
theorem d_B_inside_18 : decode b_B_inside 18 = .ok (.iconst 0, 1) := by decide +kernel
theorem d_B_inside_19 : decode b_B_inside 19 = .ok (.istore 6, 2) := by decide +kernel
theorem d_B_inside_21 : decode b_B_inside 21 = .ok (.iload 6, 2) := by decide +kernel
theorem d_B_inside_23 : decode b_B_inside 23 = .ok (.aload_n 0, 1) := by decide +kernel
theorem d_B_inside_24 : decode b_B_inside 24 = .ok (.getfield 37, 3) := by decide +kernel
theorem d_B_inside_27 : decode b_B_inside 27 = .ok (.if_icmp .ge 44, 3) := by decide +kernel
theorem d_B_inside_30 : decode b_B_inside 30 = .ok (.aload_n 0, 1) := by decide +kernel
theorem d_B_inside_31 : decode b_B_inside 31 = .ok (.iload 6, 2) := by decide +kernel
theorem d_B_inside_33 : decode b_B_inside 33 = .ok (.iload_n 3, 1) := by decide +kernel
theorem d_B_inside_34 : decode b_B_inside 34 = .ok (.invokevirtual 102, 3) := by decide +kernel
theorem d_B_inside_37 : decode b_B_inside 37 = .ok (.astore 7, 2) := by decide +kernel
theorem d_B_inside_39 : decode b_B_inside 39 = .ok (.aload 7, 2) := by decide +kernel
theorem d_B_inside_41 : decode b_B_inside 41 = .ok (.ifnull 24, 3) := by decide +kernel
theorem d_B_inside_44 : decode b_B_inside 44 = .ok (.aload 7, 2) := by decide +kernel
theorem d_B_inside_46 : decode b_B_inside 46 = .ok (.iload_n 1, 1) := by decide +kernel
theorem d_B_inside_47 : decode b_B_inside 47 = .ok (.iload_n 2, 1) := by decide +kernel
theorem d_B_inside_48 : decode b_B_inside 48 = .ok (.invokevirtual 112, 3) := by decide +kernel
theorem d_B_inside_51 : decode b_B_inside 51 = .ok (.ifCond .eq 14, 3) := by decide +kernel
theorem d_B_inside_54 : decode b_B_inside 54 = .ok (.iload 5, 2) := by decide +kernel
theorem d_B_inside_56 : decode b_B_inside 56 = .ok (.ifCond .ne 6, 3) := by decide +kernel
theorem d_B_inside_59 : decode b_B_inside 59 = .ok (.iload 6, 2) := by decide +kernel
theorem d_B_inside_61 : decode b_B_inside 61 = .ok (.ireturn, 1) := by decide +kernel
theorem d_B_inside_62 : decode b_B_inside 62 = .ok (.iinc 5 (-1), 3) := by decide +kernel
theorem d_B_inside_65 : decode b_B_inside 65 = .ok (.iinc 6 1, 3) := by decide +kernel
theorem d_B_inside_68 : decode b_B_inside 68 = .ok (.goto (-47), 3) := by decide +kernel
theorem d_B_inside_71 : decode b_B_inside 71 = .ok (.iconst (-1), 1) := by decide +kernel
theorem d_B_inside_72 : decode b_B_inside 72 = .ok (.ireturn, 1) := by decide +kernel
theorem d_B_threeWay_0 : decode b_B_threeWay 0 = .ok (.aload_n 0, 1) := by decide +kernel
theorem d_B_threeWay_1 : decode b_B_threeWay 1 = .ok (.iload_n 1, 1) := by decide +kernel
theorem d_B_threeWay_2 : decode b_B_threeWay 2 = .ok (.invokevirtual 33, 3) := by decide +kernel
theorem d_B_threeWay_5 : decode b_B_threeWay 5 = .ok (.iload_n 2, 1) := by decide +kernel
theorem d_B_threeWay_6 : decode b_B_threeWay 6 = .ok (.iload_n 3, 1) := by decide +kernel
theorem d_B_threeWay_7 : decode b_B_threeWay 7 = .ok (.invokestatic 64, 3) := by decide +kernel
theorem d_B_threeWay_10 : decode b_B_threeWay 10 = .ok (.iload 4, 2) := by decide +kernel
theorem d_B_threeWay_12 : decode b_B_threeWay 12 = .ok (.invokestatic 99, 3) := by decide +kernel
theorem d_B_threeWay_15 : decode b_B_threeWay 15 = .ok (.aload_n 0, 1) := by decide +kernel
theorem d_B_threeWay_16 : decode b_B_threeWay 16 = .ok (.iload_n 1, 1) := by decide +kernel
theorem d_B_threeWay_17 : decode b_B_threeWay 17 = .ok (.iload 4, 2) := by decide +kernel
theorem d_B_threeWay_19 : decode b_B_threeWay 19 = .ok (.invokevirtual 102, 3) := by decide +kernel
theorem d_B_threeWay_22 : decode b_B_threeWay 22 = .ok (.astore 5, 2) := by decide +kernel
theorem d_B_threeWay_24 : decode b_B_threeWay 24 = .ok (.aload 5, 2) := by decide +kernel
theorem d_B_threeWay_26 : decode b_B_threeWay 26 = .ok (.ifnonnull 5, 3) := by decide +kernel
theorem d_B_threeWay_29 : decode b_B_threeWay 29 = .ok (.iconst (-1), 1) := by decide +kernel
theorem d_B_threeWay_30 : decode b_B_threeWay 30 = .ok (.ireturn, 1) := by decide +kernel
theorem d_B_threeWay_31 : decode b_B_threeWay 31 = .ok (.aload 5, 2) := by decide +kernel
theorem d_B_threeWay_33 : decode b_B_threeWay 33 = .ok (.getfield 95, 3) := by decide +kernel
theorem d_B_threeWay_36 : decode b_B_threeWay 36 = .ok (.ifnonnull 8, 3) := by decide +kernel
theorem d_B_threeWay_39 : decode b_B_threeWay 39 = .ok (.aload 5, 2) := by decide +kernel
theorem d_B_threeWay_41 : decode b_B_threeWay 41 = .ok (.goto 8, 3) := by decide +kernel
theorem d_B_threeWay_44 : decode b_B_threeWay 44 = .ok (.aload 5, 2) := by decide +kernel
theorem d_B_threeWay_46 : decode b_B_threeWay 46 = .ok (.getfield 95, 3) := by decide +kernel
theorem d_B_threeWay_49 : decode b_B_threeWay 49 = .ok (.astore 6, 2) := by decide +kernel
theorem d_B_threeWay_51 : decode b_B_threeWay 51 = .ok (.aload 5, 2) := by decide +kernel
theorem d_B_threeWay_53 : decode b_B_threeWay 53 = .ok (.iload_n 2, 1) := by decide +kernel
theorem d_B_threeWay_54 : decode b_B_threeWay 54 = .ok (.iload_n 3, 1) := by decide +kernel
theorem d_B_threeWay_55 : decode b_B_threeWay 55 = .ok (.invokevirtual 112, 3) := by decide +kernel
theorem d_B_threeWay_58 : decode b_B_threeWay 58 = .ok (.ifCond .eq 7, 3) := by decide +kernel
theorem d_B_threeWay_61 : decode b_B_threeWay 61 = .ok (.iconst 1, 1) := by decide +kernel
theorem d_B_threeWay_62 : decode b_B_threeWay 62 = .ok (.goto 4, 3) := by decide +kernel
theorem d_B_threeWay_65 : decode b_B_threeWay 65 = .ok (.iconst 0, 1) := by decide +kernel
theorem d_B_threeWay_66 : decode b_B_threeWay 66 = .ok (.aload 6, 2) := by decide +kernel
theorem d_B_threeWay_68 : decode b_B_threeWay 68 = .ok (.iload_n 2, 1) := by decide +kernel
theorem d_B_threeWay_69 : decode b_B_threeWay 69 = .ok (.iload_n 3, 1) := by decide +kernel
theorem d_B_threeWay_70 : decode b_B_threeWay 70 = .ok (.invokevirtual 112, 3) := by decide +kernel
theorem d_B_threeWay_73 : decode b_B_threeWay 73 = .ok (.ifCond .eq 7, 3) := by decide +kernel
theorem d_B_threeWay_76 : decode b_B_threeWay 76 = .ok (.iconst 1, 1) := by decide +kernel
theorem d_B_threeWay_77 : decode b_B_threeWay 77 = .ok (.goto 4, 3) := by decide +kernel
theorem d_B_threeWay_80 : decode b_B_threeWay 80 = .ok (.iconst 0, 1) := by decide +kernel
theorem d_B_threeWay_81 : decode b_B_threeWay 81 = .ok (.iadd, 1) := by decide +kernel
theorem d_B_threeWay_82 : decode b_B_threeWay 82 = .ok (.ireturn, 1) := by decide +kernel
theorem d_B_area_0 : decode b_B_area 0 = .ok (.aload_n 0, 1) := by decide +kernel
theorem d_B_area_1 : decode b_B_area 1 = .ok (.iload_n 1, 1) := by decide +kernel
theorem d_B_area_2 : decode b_B_area 2 = .ok (.invokevirtual 33, 3) := by decide +kernel
theorem d_B_area_5 : decode b_B_area 5 = .ok (.iload_n 2, 1) := by decide +kernel
theorem d_B_area_6 : decode b_B_area 6 = .ok (.invokestatic 99, 3) := by decide +kernel
theorem d_B_area_9 : decode b_B_area 9 = .ok (.aload_n 0, 1) := by decide +kernel
theorem d_B_area_10 : decode b_B_area 10 = .ok (.iload_n 1, 1) := by decide +kernel
theorem d_B_area_11 : decode b_B_area 11 = .ok (.iload_n 2, 1) := by decide +kernel
theorem d_B_area_12 : decode b_B_area 12 = .ok (.invokevirtual 102, 3) := by decide +kernel
theorem d_B_area_15 : decode b_B_area 15 = .ok (.astore_n 3, 1) := by decide +kernel
theorem d_B_area_16 : decode b_B_area 16 = .ok (.aload_n 3, 1) := by decide +kernel
theorem d_B_area_17 : decode b_B_area 17 = .ok (.ifnonnull 7, 3) := by decide +kernel
theorem d_B_area_20 : decode b_B_area 20 = .ok (.iconst 0, 1) := by decide +kernel
theorem d_B_area_21 : decode b_B_area 21 = .ok (.goto 7, 3) := by decide +kernel
theorem d_B_area_24 : decode b_B_area 24 = .ok (.aload_n 3, 1) := by decide +kernel
theorem d_B_area_25 : decode b_B_area 25 = .ok (.invokevirtual 116, 3) := by decide +kernel
theorem d_B_area_28 : decode b_B_area 28 = .ok (.ireturn, 1) := by decide +kernel
theorem d_B_misfit_0 : decode b_B_misfit 0 = .ok (.iload_n 1, 1) := by decide +kernel
theorem d_B_misfit_1 : decode b_B_misfit 1 = .ok (.invokestatic 109, 3) := by decide +kernel
theorem d_B_misfit_4 : decode b_B_misfit 4 = .ok (.iload_n 2, 1) := by decide +kernel
theorem d_B_misfit_5 : decode b_B_misfit 5 = .ok (.invokestatic 99, 3) := by decide +kernel
theorem d_B_misfit_8 : decode b_B_misfit 8 = .ok (.iload_n 1, 1) := by decide +kernel
theorem d_B_misfit_9 : decode b_B_misfit 9 = .ok (.istore_n 3, 1) := by decide +kernel
theorem d_B_misfit_10 : decode b_B_misfit 10 = .ok (.iconst 0, 1) := by decide +kernel
theorem d_B_misfit_11 : decode b_B_misfit 11 = .ok (.istore 4, 2) := by decide +kernel
theorem d_B_misfit_13 : decode b_B_misfit 13 = .ok (.iload 4, 2) := by decide +kernel
theorem d_B_misfit_15 : decode b_B_misfit 15 = .ok (.aload_n 0, 1) := by decide +kernel
theorem d_B_misfit_16 : decode b_B_misfit 16 = .ok (.getfield 37, 3) := by decide +kernel
theorem d_B_misfit_19 : decode b_B_misfit 19 = .ok (.if_icmp .ge 29, 3) := by decide +kernel
theorem d_B_misfit_22 : decode b_B_misfit 22 = .ok (.aload_n 0, 1) := by decide +kernel
theorem d_B_misfit_23 : decode b_B_misfit 23 = .ok (.iload 4, 2) := by decide +kernel
theorem d_B_misfit_25 : decode b_B_misfit 25 = .ok (.iload_n 2, 1) := by decide +kernel
theorem d_B_misfit_26 : decode b_B_misfit 26 = .ok (.invokevirtual 120, 3) := by decide +kernel
theorem d_B_misfit_29 : decode b_B_misfit 29 = .ok (.ifCond .eq 13, 3) := by decide +kernel
theorem d_B_misfit_32 : decode b_B_misfit 32 = .ok (.iload_n 3, 1) := by decide +kernel
theorem d_B_misfit_33 : decode b_B_misfit 33 = .ok (.ifCond .ne 6, 3) := by decide +kernel
theorem d_B_misfit_36 : decode b_B_misfit 36 = .ok (.iload 4, 2) := by decide +kernel
theorem d_B_misfit_38 : decode b_B_misfit 38 = .ok (.ireturn, 1) := by decide +kernel
theorem d_B_misfit_39 : decode b_B_misfit 39 = .ok (.iinc 3 (-1), 3) := by decide +kernel
theorem d_B_misfit_42 : decode b_B_misfit 42 = .ok (.iinc 4 1, 3) := by decide +kernel
theorem d_B_misfit_45 : decode b_B_misfit 45 = .ok (.goto (-32), 3) := by decide +kernel
theorem d_B_misfit_48 : decode b_B_misfit 48 = .ok (.iconst (-1), 1) := by decide +kernel
theorem d_B_misfit_49 : decode b_B_misfit 49 = .ok (.ireturn, 1) := by decide +kernel
theorem d_B_distance_0 : decode b_B_distance 0 = .ok (.aload_n 0, 1) := by decide +kernel
theorem d_B_distance_1 : decode b_B_distance 1 = .ok (.iload_n 1, 1) := by decide +kernel
theorem d_B_distance_2 : decode b_B_distance 2 = .ok (.invokevirtual 33, 3) := by decide +kernel
theorem d_B_distance_5 : decode b_B_distance 5 = .ok (.aload_n 0, 1) := by decide +kernel
theorem d_B_distance_6 : decode b_B_distance 6 = .ok (.iload_n 2, 1) := by decide +kernel
theorem d_B_distance_7 : decode b_B_distance 7 = .ok (.invokevirtual 33, 3) := by decide +kernel
theorem d_B_distance_10 : decode b_B_distance 10 = .ok (.iload_n 3, 1) := by decide +kernel
theorem d_B_distance_11 : decode b_B_distance 11 = .ok (.invokestatic 99, 3) := by decide +kernel
theorem d_B_distance_14 : decode b_B_distance 14 = .ok (.aload_n 0, 1) := by decide +kernel
theorem d_B_distance_15 : decode b_B_distance 15 = .ok (.iload_n 1, 1) := by decide +kernel
theorem d_B_distance_16 : decode b_B_distance 16 = .ok (.iload_n 3, 1) := by decide +kernel
theorem d_B_distance_17 : decode b_B_distance 17 = .ok (.invokevirtual 102, 3) := by decide +kernel
theorem d_B_distance_20 : decode b_B_distance 20 = .ok (.astore 4, 2) := by decide +kernel
theorem d_B_distance_22 : decode b_B_distance 22 = .ok (.aload_n 0, 1) := by decide +kernel
theorem d_B_distance_23 : decode b_B_distance 23 = .ok (.iload_n 2, 1) := by decide +kernel
theorem d_B_distance_24 : decode b_B_distance 24 = .ok (.iload_n 3, 1) := by decide +kernel
theorem d_B_distance_25 : decode b_B_distance 25 = .ok (.invokevirtual 102, 3) := by decide +kernel
theorem d_B_distance_28 : decode b_B_distance 28 = .ok (.astore 5, 2) := by decide +kernel
theorem d_B_distance_30 : decode b_B_distance 30 = .ok (.aload 4, 2) := by decide +kernel
theorem d_B_distance_32 : decode b_B_distance 32 = .ok (.ifnull 8, 3) := by decide +kernel
theorem d_B_distance_35 : decode b_B_distance 35 = .ok (.aload 5, 2) := by decide +kernel
theorem d_B_distance_37 : decode b_B_distance 37 = .ok (.ifnonnull 7, 3) := by decide +kernel
theorem d_B_distance_40 : decode b_B_distance 40 = .ok (.iconst (-1), 1) := by decide +kernel
theorem d_B_distance_41 : decode b_B_distance 41 = .ok (.goto 10, 3) := by decide +kernel
theorem d_B_distance_44 : decode b_B_distance 44 = .ok (.aload 4, 2) := by decide +kernel
theorem d_B_distance_46 : decode b_B_distance 46 = .ok (.aload 5, 2) := by decide +kernel
theorem d_B_distance_48 : decode b_B_distance 48 = .ok (.invokevirtual 123, 3) := by decide +kernel
theorem d_B_distance_51 : decode b_B_distance 51 = .ok (.ireturn, 1) := by decide +kernel
theorem d_B_name_0 : decode b_B_name 0 = .ok (.aload_n 0, 1) := by decide +kernel
theorem d_B_name_1 : decode b_B_name 1 = .ok (.iload_n 1, 1) := by decide +kernel
theorem d_B_name_2 : decode b_B_name 2 = .ok (.invokevirtual 33, 3) := by decide +kernel
theorem d_B_name_5 : decode b_B_name 5 = .ok (.iload_n 3, 1) := by decide +kernel
theorem d_B_name_6 : decode b_B_name 6 = .ok (.iload 4, 2) := by decide +kernel
theorem d_B_name_8 : decode b_B_name 8 = .ok (.invokestatic 48, 3) := by decide +kernel
theorem d_B_name_11 : decode b_B_name 11 = .ok (.iload_n 2, 1) := by decide +kernel
theorem d_B_name_12 : decode b_B_name 12 = .ok (.ifCond .ge 13, 3) := by decide +kernel
theorem d_B_name_15 : decode b_B_name 15 = .ok (.new 127, 3) := by decide +kernel
theorem d_B_name_18 : decode b_B_name 18 = .ok (.dup, 1) := by decide +kernel
theorem d_B_name_19 : decode b_B_name 19 = .ok (.ldc 129, 2) := by decide +kernel
theorem d_B_name_21 : decode b_B_name 21 = .ok (.invokespecial 131, 3) := by decide +kernel
theorem d_B_name_24 : decode b_B_name 24 = .ok (.athrow, 1) := by decide +kernel
theorem d_B_name_25 : decode b_B_name 25 = .ok (.aload_n 0, 1) := by decide +kernel
theorem d_B_name_26 : decode b_B_name 26 = .ok (.getfield 22, 3) := by decide +kernel
theorem d_B_name_29 : decode b_B_name 29 = .ok (.invokevirtual 132, 3) := by decide +kernel
theorem d_B_name_32 : decode b_B_name 32 = .ok (.ifCond .eq 13, 3) := by decide +kernel
theorem d_B_name_35 : decode b_B_name 35 = .ok (.new 41, 3) := by decide +kernel
theorem d_B_name_38 : decode b_B_name 38 = .ok (.dup, 1) := by decide +kernel
theorem d_B_name_39 : decode b_B_name 39 = .ok (.ldc 133, 2) := by decide +kernel
theorem d_B_name_41 : decode b_B_name 41 = .ok (.invokespecial 45, 3) := by decide +kernel
theorem d_B_name_44 : decode b_B_name 44 = .ok (.athrow, 1) := by decide +kernel
theorem d_B_name_45 : decode b_B_name 45 = .ok (.aload_n 0, 1) := by decide +kernel
theorem d_B_name_46 : decode b_B_name 46 = .ok (.getfield 22, 3) := by decide +kernel
theorem d_B_name_49 : decode b_B_name 49 = .ok (.iload_n 1, 1) := by decide +kernel
theorem d_B_name_50 : decode b_B_name 50 = .ok (.iload_n 2, 1) := by decide +kernel
theorem d_B_name_51 : decode b_B_name 51 = .ok (.iload_n 3, 1) := by decide +kernel
theorem d_B_name_52 : decode b_B_name 52 = .ok (.iload 4, 2) := by decide +kernel
theorem d_B_name_54 : decode b_B_name 54 = .ok (.invokevirtual 135, 3) := by decide +kernel
theorem d_B_name_57 : decode b_B_name 57 = .ok (.return_, 1) := by decide +kernel
theorem d_B_nameOn_0 : decode b_B_nameOn 0 = .ok (.aload_n 0, 1) := by decide +kernel
theorem d_B_nameOn_1 : decode b_B_nameOn 1 = .ok (.iload_n 1, 1) := by decide +kernel
theorem d_B_nameOn_2 : decode b_B_nameOn 2 = .ok (.invokevirtual 33, 3) := by decide +kernel
theorem d_B_nameOn_5 : decode b_B_nameOn 5 = .ok (.iload_n 2, 1) := by decide +kernel
theorem d_B_nameOn_6 : decode b_B_nameOn 6 = .ok (.invokestatic 99, 3) := by decide +kernel
theorem d_B_nameOn_9 : decode b_B_nameOn 9 = .ok (.aload_n 0, 1) := by decide +kernel
theorem d_B_nameOn_10 : decode b_B_nameOn 10 = .ok (.getfield 22, 3) := by decide +kernel
theorem d_B_nameOn_13 : decode b_B_nameOn 13 = .ok (.iload_n 1, 1) := by decide +kernel
theorem d_B_nameOn_14 : decode b_B_nameOn 14 = .ok (.iload_n 2, 1) := by decide +kernel
theorem d_B_nameOn_15 : decode b_B_nameOn 15 = .ok (.invokevirtual 138, 3) := by decide +kernel
theorem d_B_nameOn_18 : decode b_B_nameOn 18 = .ok (.ireturn, 1) := by decide +kernel
theorem d_B_mark_0 : decode b_B_mark 0 = .ok (.iload_n 1, 1) := by decide +kernel
theorem d_B_mark_1 : decode b_B_mark 1 = .ok (.iload_n 2, 1) := by decide +kernel
theorem d_B_mark_2 : decode b_B_mark 2 = .ok (.invokestatic 64, 3) := by decide +kernel
theorem d_B_mark_5 : decode b_B_mark 5 = .ok (.iload_n 3, 1) := by decide +kernel
theorem d_B_mark_6 : decode b_B_mark 6 = .ok (.iload 4, 2) := by decide +kernel
theorem d_B_mark_8 : decode b_B_mark 8 = .ok (.invokestatic 64, 3) := by decide +kernel
theorem d_B_mark_11 : decode b_B_mark 11 = .ok (.aload_n 0, 1) := by decide +kernel
theorem d_B_mark_12 : decode b_B_mark 12 = .ok (.getfield 29, 3) := by decide +kernel
theorem d_B_mark_15 : decode b_B_mark 15 = .ok (.invokevirtual 141, 3) := by decide +kernel
theorem d_B_mark_18 : decode b_B_mark 18 = .ok (.ifCond .eq 13, 3) := by decide +kernel
theorem d_B_mark_21 : decode b_B_mark 21 = .ok (.new 41, 3) := by decide +kernel
theorem d_B_mark_24 : decode b_B_mark 24 = .ok (.dup, 1) := by decide +kernel
theorem d_B_mark_25 : decode b_B_mark 25 = .ok (.ldc 142, 2) := by decide +kernel
theorem d_B_mark_27 : decode b_B_mark 27 = .ok (.invokespecial 45, 3) := by decide +kernel
theorem d_B_mark_30 : decode b_B_mark 30 = .ok (.athrow, 1) := by decide +kernel
theorem d_B_mark_31 : decode b_B_mark 31 = .ok (.aload_n 0, 1) := by decide +kernel
theorem d_B_mark_32 : decode b_B_mark 32 = .ok (.getfield 29, 3) := by decide +kernel
theorem d_B_mark_35 : decode b_B_mark 35 = .ok (.iload_n 1, 1) := by decide +kernel
theorem d_B_mark_36 : decode b_B_mark 36 = .ok (.iload_n 2, 1) := by decide +kernel
theorem d_B_mark_37 : decode b_B_mark 37 = .ok (.iload_n 3, 1) := by decide +kernel
theorem d_B_mark_38 : decode b_B_mark 38 = .ok (.iload 4, 2) := by decide +kernel
theorem d_B_mark_40 : decode b_B_mark 40 = .ok (.invokevirtual 144, 3) := by decide +kernel
theorem d_B_mark_43 : decode b_B_mark 43 = .ok (.ireturn, 1) := by decide +kernel
theorem d_B_placed_0 : decode b_B_placed 0 = .ok (.iload_n 3, 1) := by decide +kernel
theorem d_B_placed_1 : decode b_B_placed 1 = .ok (.invokestatic 147, 3) := by decide +kernel
theorem d_B_placed_4 : decode b_B_placed 4 = .ok (.iload_n 1, 1) := by decide +kernel
theorem d_B_placed_5 : decode b_B_placed 5 = .ok (.iload_n 2, 1) := by decide +kernel
theorem d_B_placed_6 : decode b_B_placed 6 = .ok (.invokestatic 64, 3) := by decide +kernel
theorem d_B_placed_9 : decode b_B_placed 9 = .ok (.aload_n 0, 1) := by decide +kernel
theorem d_B_placed_10 : decode b_B_placed 10 = .ok (.getfield 29, 3) := by decide +kernel
theorem d_B_placed_13 : decode b_B_placed 13 = .ok (.iload_n 1, 1) := by decide +kernel
theorem d_B_placed_14 : decode b_B_placed 14 = .ok (.iload_n 2, 1) := by decide +kernel
theorem d_B_placed_15 : decode b_B_placed 15 = .ok (.iload_n 3, 1) := by decide +kernel
theorem d_B_placed_16 : decode b_B_placed 16 = .ok (.invokevirtual 150, 3) := by decide +kernel
theorem d_B_placed_19 : decode b_B_placed 19 = .ok (.ireturn, 1) := by decide +kernel
theorem d_B_masked_0 : decode b_B_masked 0 = .ok (.iload 4, 2) := by decide +kernel
theorem d_B_masked_2 : decode b_B_masked 2 = .ok (.invokestatic 147, 3) := by decide +kernel
theorem d_B_masked_5 : decode b_B_masked 5 = .ok (.iload_n 1, 1) := by decide +kernel
theorem d_B_masked_6 : decode b_B_masked 6 = .ok (.iload_n 2, 1) := by decide +kernel
theorem d_B_masked_7 : decode b_B_masked 7 = .ok (.invokestatic 64, 3) := by decide +kernel
theorem d_B_masked_10 : decode b_B_masked 10 = .ok (.iload_n 3, 1) := by decide +kernel
theorem d_B_masked_11 : decode b_B_masked 11 = .ok (.iconst 1, 1) := by decide +kernel
theorem d_B_masked_12 : decode b_B_masked 12 = .ok (.if_icmp .lt 10, 3) := by decide +kernel
theorem d_B_masked_15 : decode b_B_masked 15 = .ok (.iload_n 3, 1) := by decide +kernel
theorem d_B_masked_16 : decode b_B_masked 16 = .ok (.sipush 10000, 3) := by decide +kernel
theorem d_B_masked_19 : decode b_B_masked 19 = .ok (.if_icmp .le 13, 3) := by decide +kernel
theorem d_B_masked_22 : decode b_B_masked 22 = .ok (.new 127, 3) := by decide +kernel
theorem d_B_masked_25 : decode b_B_masked 25 = .ok (.dup, 1) := by decide +kernel
theorem d_B_masked_26 : decode b_B_masked 26 = .ok (.ldc 153, 2) := by decide +kernel
theorem d_B_masked_28 : decode b_B_masked 28 = .ok (.invokespecial 131, 3) := by decide +kernel
theorem d_B_masked_31 : decode b_B_masked 31 = .ok (.athrow, 1) := by decide +kernel
theorem d_B_masked_32 : decode b_B_masked 32 = .ok (.iload 4, 2) := by decide +kernel
theorem d_B_masked_34 : decode b_B_masked 34 = .ok (.ifCond .ne 7, 3) := by decide +kernel
theorem d_B_masked_37 : decode b_B_masked 37 = .ok (.iload_n 1, 1) := by decide +kernel
theorem d_B_masked_38 : decode b_B_masked 38 = .ok (.goto 4, 3) := by decide +kernel
theorem d_B_masked_41 : decode b_B_masked 41 = .ok (.iload_n 2, 1) := by decide +kernel
theorem d_B_masked_42 : decode b_B_masked 42 = .ok (.iload_n 3, 1) := by decide +kernel
theorem d_B_masked_43 : decode b_B_masked 43 = .ok (.invokestatic 155, 3) := by decide +kernel
theorem d_B_masked_46 : decode b_B_masked 46 = .ok (.iload_n 3, 1) := by decide +kernel
theorem d_B_masked_47 : decode b_B_masked 47 = .ok (.imul, 1) := by decide +kernel
theorem d_B_masked_48 : decode b_B_masked 48 = .ok (.ireturn, 1) := by decide +kernel
theorem d_B_shapeNumbered_0 : decode b_B_shapeNumbered 0 = .ok (.iload_n 1, 1) := by decide +kernel
theorem d_B_shapeNumbered_1 : decode b_B_shapeNumbered 1 = .ok (.ifCond .lt 11, 3) := by decide +kernel
theorem d_B_shapeNumbered_4 : decode b_B_shapeNumbered 4 = .ok (.iload_n 1, 1) := by decide +kernel
theorem d_B_shapeNumbered_5 : decode b_B_shapeNumbered 5 = .ok (.aload_n 0, 1) := by decide +kernel
theorem d_B_shapeNumbered_6 : decode b_B_shapeNumbered 6 = .ok (.getfield 52, 3) := by decide +kernel
theorem d_B_shapeNumbered_9 : decode b_B_shapeNumbered 9 = .ok (.if_icmp .lt 13, 3) := by decide +kernel
theorem d_B_shapeNumbered_12 : decode b_B_shapeNumbered 12 = .ok (.new 160, 3) := by decide +kernel
theorem d_B_shapeNumbered_15 : decode b_B_shapeNumbered 15 = .ok (.dup, 1) := by decide +kernel
theorem d_B_shapeNumbered_16 : decode b_B_shapeNumbered 16 = .ok (.ldc 162, 2) := by decide +kernel
theorem d_B_shapeNumbered_18 : decode b_B_shapeNumbered 18 = .ok (.invokespecial 164, 3) := by decide +kernel
theorem d_B_shapeNumbered_21 : decode b_B_shapeNumbered 21 = .ok (.athrow, 1) := by decide +kernel
theorem d_B_shapeNumbered_22 : decode b_B_shapeNumbered 22 = .ok (.aload_n 0, 1) := by decide +kernel
theorem d_B_shapeNumbered_23 : decode b_B_shapeNumbered 23 = .ok (.getfield 15, 3) := by decide +kernel
theorem d_B_shapeNumbered_26 : decode b_B_shapeNumbered 26 = .ok (.iload_n 1, 1) := by decide +kernel
theorem d_B_shapeNumbered_27 : decode b_B_shapeNumbered 27 = .ok (.aaload, 1) := by decide +kernel
theorem d_B_shapeNumbered_28 : decode b_B_shapeNumbered 28 = .ok (.areturn, 1) := by decide +kernel
theorem d_B_shapeOn_0 : decode b_B_shapeOn 0 = .ok (.aconst_null, 1) := by decide +kernel
theorem d_B_shapeOn_1 : decode b_B_shapeOn 1 = .ok (.astore_n 3, 1) := by decide +kernel
theorem d_B_shapeOn_2 : decode b_B_shapeOn 2 = .ok (.iconst 0, 1) := by decide +kernel
theorem d_B_shapeOn_3 : decode b_B_shapeOn 3 = .ok (.istore 4, 2) := by decide +kernel
theorem d_B_shapeOn_5 : decode b_B_shapeOn 5 = .ok (.iload 4, 2) := by decide +kernel
theorem d_B_shapeOn_7 : decode b_B_shapeOn 7 = .ok (.aload_n 0, 1) := by decide +kernel
theorem d_B_shapeOn_8 : decode b_B_shapeOn 8 = .ok (.getfield 52, 3) := by decide +kernel
theorem d_B_shapeOn_11 : decode b_B_shapeOn 11 = .ok (.if_icmp .ge 47, 3) := by decide +kernel
theorem d_B_shapeOn_14 : decode b_B_shapeOn 14 = .ok (.aload_n 0, 1) := by decide +kernel
theorem d_B_shapeOn_15 : decode b_B_shapeOn 15 = .ok (.getfield 15, 3) := by decide +kernel
theorem d_B_shapeOn_18 : decode b_B_shapeOn 18 = .ok (.iload 4, 2) := by decide +kernel
theorem d_B_shapeOn_20 : decode b_B_shapeOn 20 = .ok (.aaload, 1) := by decide +kernel
theorem d_B_shapeOn_21 : decode b_B_shapeOn 21 = .ok (.astore 5, 2) := by decide +kernel
theorem d_B_shapeOn_23 : decode b_B_shapeOn 23 = .ok (.aload 5, 2) := by decide +kernel
theorem d_B_shapeOn_25 : decode b_B_shapeOn 25 = .ok (.iload_n 1, 1) := by decide +kernel
theorem d_B_shapeOn_26 : decode b_B_shapeOn 26 = .ok (.iload_n 2, 1) := by decide +kernel
theorem d_B_shapeOn_27 : decode b_B_shapeOn 27 = .ok (.invokevirtual 165, 3) := by decide +kernel
theorem d_B_shapeOn_30 : decode b_B_shapeOn 30 = .ok (.ifCond .eq 22, 3) := by decide +kernel
theorem d_B_shapeOn_33 : decode b_B_shapeOn 33 = .ok (.aload_n 3, 1) := by decide +kernel
theorem d_B_shapeOn_34 : decode b_B_shapeOn 34 = .ok (.ifnull 15, 3) := by decide +kernel
theorem d_B_shapeOn_37 : decode b_B_shapeOn 37 = .ok (.aload 5, 2) := by decide +kernel
theorem d_B_shapeOn_39 : decode b_B_shapeOn 39 = .ok (.getfield 86, 3) := by decide +kernel
theorem d_B_shapeOn_42 : decode b_B_shapeOn 42 = .ok (.aload_n 3, 1) := by decide +kernel
theorem d_B_shapeOn_43 : decode b_B_shapeOn 43 = .ok (.getfield 86, 3) := by decide +kernel
theorem d_B_shapeOn_46 : decode b_B_shapeOn 46 = .ok (.if_icmp .le 6, 3) := by decide +kernel
theorem d_B_shapeOn_49 : decode b_B_shapeOn 49 = .ok (.aload 5, 2) := by decide +kernel
theorem d_B_shapeOn_51 : decode b_B_shapeOn 51 = .ok (.astore_n 3, 1) := by decide +kernel
theorem d_B_shapeOn_52 : decode b_B_shapeOn 52 = .ok (.iinc 4 1, 3) := by decide +kernel
theorem d_B_shapeOn_55 : decode b_B_shapeOn 55 = .ok (.goto (-50), 3) := by decide +kernel
theorem d_B_shapeOn_58 : decode b_B_shapeOn 58 = .ok (.aload_n 3, 1) := by decide +kernel
theorem d_B_shapeOn_59 : decode b_B_shapeOn 59 = .ok (.areturn, 1) := by decide +kernel
theorem d_B_misfitsOn_0 : decode b_B_misfitsOn 0 = .ok (.aload_n 0, 1) := by decide +kernel
theorem d_B_misfitsOn_1 : decode b_B_misfitsOn 1 = .ok (.getfield 9, 3) := by decide +kernel
theorem d_B_misfitsOn_4 : decode b_B_misfitsOn 4 = .ok (.iload_n 1, 1) := by decide +kernel
theorem d_B_misfitsOn_5 : decode b_B_misfitsOn 5 = .ok (.iaload, 1) := by decide +kernel
theorem d_B_misfitsOn_6 : decode b_B_misfitsOn 6 = .ok (.istore_n 3, 1) := by decide +kernel
theorem d_B_misfitsOn_7 : decode b_B_misfitsOn 7 = .ok (.iload_n 3, 1) := by decide +kernel
theorem d_B_misfitsOn_8 : decode b_B_misfitsOn 8 = .ok (.iconst (-1), 1) := by decide +kernel
theorem d_B_misfitsOn_9 : decode b_B_misfitsOn 9 = .ok (.if_icmp .ne 5, 3) := by decide +kernel
theorem d_B_misfitsOn_12 : decode b_B_misfitsOn 12 = .ok (.iconst 0, 1) := by decide +kernel
theorem d_B_misfitsOn_13 : decode b_B_misfitsOn 13 = .ok (.ireturn, 1) := by decide +kernel
theorem d_B_misfitsOn_14 : decode b_B_misfitsOn 14 = .ok (.aload_n 0, 1) := by decide +kernel
theorem d_B_misfitsOn_15 : decode b_B_misfitsOn 15 = .ok (.iload_n 1, 1) := by decide +kernel
theorem d_B_misfitsOn_16 : decode b_B_misfitsOn 16 = .ok (.iload_n 2, 1) := by decide +kernel
theorem d_B_misfitsOn_17 : decode b_B_misfitsOn 17 = .ok (.invokevirtual 102, 3) := by decide +kernel
theorem d_B_misfitsOn_20 : decode b_B_misfitsOn 20 = .ok (.astore 4, 2) := by decide +kernel
theorem d_B_misfitsOn_22 : decode b_B_misfitsOn 22 = .ok (.aload_n 0, 1) := by decide +kernel
theorem d_B_misfitsOn_23 : decode b_B_misfitsOn 23 = .ok (.iload_n 3, 1) := by decide +kernel
theorem d_B_misfitsOn_24 : decode b_B_misfitsOn 24 = .ok (.iload_n 2, 1) := by decide +kernel
theorem d_B_misfitsOn_25 : decode b_B_misfitsOn 25 = .ok (.invokevirtual 102, 3) := by decide +kernel
theorem d_B_misfitsOn_28 : decode b_B_misfitsOn 28 = .ok (.astore 5, 2) := by decide +kernel
theorem d_B_misfitsOn_30 : decode b_B_misfitsOn 30 = .ok (.aload 4, 2) := by decide +kernel
theorem d_B_misfitsOn_32 : decode b_B_misfitsOn 32 = .ok (.ifnull 22, 3) := by decide +kernel
theorem d_B_misfitsOn_35 : decode b_B_misfitsOn 35 = .ok (.aload 5, 2) := by decide +kernel
theorem d_B_misfitsOn_37 : decode b_B_misfitsOn 37 = .ok (.ifnull 17, 3) := by decide +kernel
theorem d_B_misfitsOn_40 : decode b_B_misfitsOn 40 = .ok (.aload 5, 2) := by decide +kernel
theorem d_B_misfitsOn_42 : decode b_B_misfitsOn 42 = .ok (.aload 4, 2) := by decide +kernel
theorem d_B_misfitsOn_44 : decode b_B_misfitsOn 44 = .ok (.invokevirtual 168, 3) := by decide +kernel
theorem d_B_misfitsOn_47 : decode b_B_misfitsOn 47 = .ok (.ifCond .ne 7, 3) := by decide +kernel
theorem d_B_misfitsOn_50 : decode b_B_misfitsOn 50 = .ok (.iconst 1, 1) := by decide +kernel
theorem d_B_misfitsOn_51 : decode b_B_misfitsOn 51 = .ok (.goto 4, 3) := by decide +kernel
theorem d_B_misfitsOn_54 : decode b_B_misfitsOn 54 = .ok (.iconst 0, 1) := by decide +kernel
theorem d_B_misfitsOn_55 : decode b_B_misfitsOn 55 = .ok (.ireturn, 1) := by decide +kernel
theorem d_B_requirePlace_0 : decode b_B_requirePlace 0 = .ok (.iload_n 1, 1) := by decide +kernel
theorem d_B_requirePlace_1 : decode b_B_requirePlace 1 = .ok (.ifCond .lt 11, 3) := by decide +kernel
theorem d_B_requirePlace_4 : decode b_B_requirePlace 4 = .ok (.iload_n 1, 1) := by decide +kernel
theorem d_B_requirePlace_5 : decode b_B_requirePlace 5 = .ok (.aload_n 0, 1) := by decide +kernel
theorem d_B_requirePlace_6 : decode b_B_requirePlace 6 = .ok (.getfield 37, 3) := by decide +kernel
theorem d_B_requirePlace_9 : decode b_B_requirePlace 9 = .ok (.if_icmp .lt 13, 3) := by decide +kernel
theorem d_B_requirePlace_12 : decode b_B_requirePlace 12 = .ok (.new 160, 3) := by decide +kernel
theorem d_B_requirePlace_15 : decode b_B_requirePlace 15 = .ok (.dup, 1) := by decide +kernel
theorem d_B_requirePlace_16 : decode b_B_requirePlace 16 = .ok (.ldc 172, 2) := by decide +kernel
theorem d_B_requirePlace_18 : decode b_B_requirePlace 18 = .ok (.invokespecial 164, 3) := by decide +kernel
theorem d_B_requirePlace_21 : decode b_B_requirePlace 21 = .ok (.athrow, 1) := by decide +kernel
theorem d_B_requirePlace_22 : decode b_B_requirePlace 22 = .ok (.return_, 1) := by decide +kernel
theorem d_B_requireRank_0 : decode b_B_requireRank 0 = .ok (.iload_n 0, 1) := by decide +kernel
theorem d_B_requireRank_1 : decode b_B_requireRank 1 = .ok (.ifCond .ge 13, 3) := by decide +kernel
theorem d_B_requireRank_4 : decode b_B_requireRank 4 = .ok (.new 160, 3) := by decide +kernel
theorem d_B_requireRank_7 : decode b_B_requireRank 7 = .ok (.dup, 1) := by decide +kernel
theorem d_B_requireRank_8 : decode b_B_requireRank 8 = .ok (.ldc 174, 2) := by decide +kernel
theorem d_B_requireRank_10 : decode b_B_requireRank 10 = .ok (.invokespecial 164, 3) := by decide +kernel
theorem d_B_requireRank_13 : decode b_B_requireRank 13 = .ok (.athrow, 1) := by decide +kernel
theorem d_B_requireRank_14 : decode b_B_requireRank 14 = .ok (.return_, 1) := by decide +kernel
theorem d_B_requireAxis_0 : decode b_B_requireAxis 0 = .ok (.iload_n 0, 1) := by decide +kernel
theorem d_B_requireAxis_1 : decode b_B_requireAxis 1 = .ok (.ifCond .eq 18, 3) := by decide +kernel
theorem d_B_requireAxis_4 : decode b_B_requireAxis 4 = .ok (.iload_n 0, 1) := by decide +kernel
theorem d_B_requireAxis_5 : decode b_B_requireAxis 5 = .ok (.iconst 1, 1) := by decide +kernel
theorem d_B_requireAxis_6 : decode b_B_requireAxis 6 = .ok (.if_icmp .eq 13, 3) := by decide +kernel
theorem d_B_requireAxis_9 : decode b_B_requireAxis 9 = .ok (.new 160, 3) := by decide +kernel
theorem d_B_requireAxis_12 : decode b_B_requireAxis 12 = .ok (.dup, 1) := by decide +kernel
theorem d_B_requireAxis_13 : decode b_B_requireAxis 13 = .ok (.ldc 176, 2) := by decide +kernel
theorem d_B_requireAxis_15 : decode b_B_requireAxis 15 = .ok (.invokespecial 164, 3) := by decide +kernel
theorem d_B_requireAxis_18 : decode b_B_requireAxis 18 = .ok (.athrow, 1) := by decide +kernel
theorem d_B_requireAxis_19 : decode b_B_requireAxis 19 = .ok (.return_, 1) := by decide +kernel
theorem d_B_requireDay_0 : decode b_B_requireDay 0 = .ok (.iload_n 0, 1) := by decide +kernel
theorem d_B_requireDay_1 : decode b_B_requireDay 1 = .ok (.ifCond .lt 9, 3) := by decide +kernel
theorem d_B_requireDay_4 : decode b_B_requireDay 4 = .ok (.iload_n 0, 1) := by decide +kernel
theorem d_B_requireDay_5 : decode b_B_requireDay 5 = .ok (.ldc 178, 2) := by decide +kernel
theorem d_B_requireDay_7 : decode b_B_requireDay 7 = .ok (.if_icmp .le 13, 3) := by decide +kernel
theorem d_B_requireDay_10 : decode b_B_requireDay 10 = .ok (.new 127, 3) := by decide +kernel
theorem d_B_requireDay_13 : decode b_B_requireDay 13 = .ok (.dup, 1) := by decide +kernel
theorem d_B_requireDay_14 : decode b_B_requireDay 14 = .ok (.ldc 179, 2) := by decide +kernel
theorem d_B_requireDay_16 : decode b_B_requireDay 16 = .ok (.invokespecial 131, 3) := by decide +kernel
theorem d_B_requireDay_19 : decode b_B_requireDay 19 = .ok (.athrow, 1) := by decide +kernel
theorem d_B_requireDay_20 : decode b_B_requireDay 20 = .ok (.return_, 1) := by decide +kernel
theorem d_B_requireSpan_0 : decode b_B_requireSpan 0 = .ok (.iload_n 0, 1) := by decide +kernel
theorem d_B_requireSpan_1 : decode b_B_requireSpan 1 = .ok (.invokestatic 99, 3) := by decide +kernel
theorem d_B_requireSpan_4 : decode b_B_requireSpan 4 = .ok (.iload_n 1, 1) := by decide +kernel
theorem d_B_requireSpan_5 : decode b_B_requireSpan 5 = .ok (.invokestatic 99, 3) := by decide +kernel
theorem d_B_requireSpan_8 : decode b_B_requireSpan 8 = .ok (.iload_n 0, 1) := by decide +kernel
theorem d_B_requireSpan_9 : decode b_B_requireSpan 9 = .ok (.iload_n 1, 1) := by decide +kernel
theorem d_B_requireSpan_10 : decode b_B_requireSpan 10 = .ok (.if_icmp .le 13, 3) := by decide +kernel
theorem d_B_requireSpan_13 : decode b_B_requireSpan 13 = .ok (.new 127, 3) := by decide +kernel
theorem d_B_requireSpan_16 : decode b_B_requireSpan 16 = .ok (.dup, 1) := by decide +kernel
theorem d_B_requireSpan_17 : decode b_B_requireSpan 17 = .ok (.ldc 181, 2) := by decide +kernel
theorem d_B_requireSpan_19 : decode b_B_requireSpan 19 = .ok (.invokespecial 131, 3) := by decide +kernel
theorem d_B_requireSpan_22 : decode b_B_requireSpan 22 = .ok (.athrow, 1) := by decide +kernel
theorem d_B_requireSpan_23 : decode b_B_requireSpan 23 = .ok (.return_, 1) := by decide +kernel
theorem d_B_requirePoint_0 : decode b_B_requirePoint 0 = .ok (.iload_n 0, 1) := by decide +kernel
theorem d_B_requirePoint_1 : decode b_B_requirePoint 1 = .ok (.sipush (-10000), 3) := by decide +kernel
theorem d_B_requirePoint_4 : decode b_B_requirePoint 4 = .ok (.if_icmp .lt 24, 3) := by decide +kernel
theorem d_B_requirePoint_7 : decode b_B_requirePoint 7 = .ok (.iload_n 0, 1) := by decide +kernel
theorem d_B_requirePoint_8 : decode b_B_requirePoint 8 = .ok (.sipush 10000, 3) := by decide +kernel
theorem d_B_requirePoint_11 : decode b_B_requirePoint 11 = .ok (.if_icmp .gt 17, 3) := by decide +kernel
theorem d_B_requirePoint_14 : decode b_B_requirePoint 14 = .ok (.iload_n 1, 1) := by decide +kernel
theorem d_B_requirePoint_15 : decode b_B_requirePoint 15 = .ok (.sipush (-10000), 3) := by decide +kernel
theorem d_B_requirePoint_18 : decode b_B_requirePoint 18 = .ok (.if_icmp .lt 10, 3) := by decide +kernel
theorem d_B_requirePoint_21 : decode b_B_requirePoint 21 = .ok (.iload_n 1, 1) := by decide +kernel
theorem d_B_requirePoint_22 : decode b_B_requirePoint 22 = .ok (.sipush 10000, 3) := by decide +kernel
theorem d_B_requirePoint_25 : decode b_B_requirePoint 25 = .ok (.if_icmp .le 13, 3) := by decide +kernel
theorem d_B_requirePoint_28 : decode b_B_requirePoint 28 = .ok (.new 127, 3) := by decide +kernel
theorem d_B_requirePoint_31 : decode b_B_requirePoint 31 = .ok (.dup, 1) := by decide +kernel
theorem d_B_requirePoint_32 : decode b_B_requirePoint 32 = .ok (.ldc 183, 2) := by decide +kernel
theorem d_B_requirePoint_34 : decode b_B_requirePoint 34 = .ok (.invokespecial 131, 3) := by decide +kernel
theorem d_B_requirePoint_37 : decode b_B_requirePoint 37 = .ok (.athrow, 1) := by decide +kernel
theorem d_B_requirePoint_38 : decode b_B_requirePoint 38 = .ok (.return_, 1) := by decide +kernel
