theorem d_L_place_0 : decode b_L_place 0 = .ok (.aload_n 2, 1) := by decide +kernel
theorem d_L_place_1 : decode b_L_place 1 = .ok (.iconst 0, 1) := by decide +kernel
theorem d_L_place_2 : decode b_L_place 2 = .ok (.aload_n 0, 1) := by decide +kernel
theorem d_L_place_3 : decode b_L_place 3 = .ok (.iload_n 1, 1) := by decide +kernel
theorem d_L_place_4 : decode b_L_place 4 = .ok (.invokevirtual 7, 3) := by decide +kernel
theorem d_L_place_7 : decode b_L_place 7 = .ok (.i2l, 1) := by decide +kernel
theorem d_L_place_8 : decode b_L_place 8 = .ok (.lastore, 1) := by decide +kernel
theorem d_L_place_9 : decode b_L_place 9 = .ok (.goto 9, 3) := by decide +kernel
theorem d_L_place_12 : decode b_L_place 12 = .ok (.astore_n 3, 1) := by decide +kernel
theorem d_L_place_13 : decode b_L_place 13 = .ok (.iconst 1, 1) := by decide +kernel
theorem d_L_place_14 : decode b_L_place 14 = .ok (.ireturn, 1) := by decide +kernel
theorem d_L_place_15 : decode b_L_place 15 = .ok (.astore_n 3, 1) := by decide +kernel
theorem d_L_place_16 : decode b_L_place 16 = .ok (.iconst 2, 1) := by decide +kernel
theorem d_L_place_17 : decode b_L_place 17 = .ok (.ireturn, 1) := by decide +kernel
theorem d_L_place_18 : decode b_L_place 18 = .ok (.iconst 0, 1) := by decide +kernel
theorem d_L_place_19 : decode b_L_place 19 = .ok (.ireturn, 1) := by decide +kernel
theorem d_L_shape_0 : decode b_L_shape 0 = .ok (.aload 4, 2) := by decide +kernel
theorem d_L_shape_2 : decode b_L_shape 2 = .ok (.iconst 0, 1) := by decide +kernel
theorem d_L_shape_3 : decode b_L_shape 3 = .ok (.aload_n 0, 1) := by decide +kernel
theorem d_L_shape_4 : decode b_L_shape 4 = .ok (.iload_n 1, 1) := by decide +kernel
theorem d_L_shape_5 : decode b_L_shape 5 = .ok (.iload_n 2, 1) := by decide +kernel
theorem d_L_shape_6 : decode b_L_shape 6 = .ok (.iload_n 3, 1) := by decide +kernel
theorem d_L_shape_7 : decode b_L_shape 7 = .ok (.invokevirtual 17, 3) := by decide +kernel
theorem d_L_shape_10 : decode b_L_shape 10 = .ok (.i2l, 1) := by decide +kernel
theorem d_L_shape_11 : decode b_L_shape 11 = .ok (.lastore, 1) := by decide +kernel
theorem d_L_shape_12 : decode b_L_shape 12 = .ok (.goto 15, 3) := by decide +kernel
theorem d_L_shape_15 : decode b_L_shape 15 = .ok (.astore 5, 2) := by decide +kernel
theorem d_L_shape_17 : decode b_L_shape 17 = .ok (.iconst 1, 1) := by decide +kernel
theorem d_L_shape_18 : decode b_L_shape 18 = .ok (.ireturn, 1) := by decide +kernel
theorem d_L_shape_19 : decode b_L_shape 19 = .ok (.astore 5, 2) := by decide +kernel
theorem d_L_shape_21 : decode b_L_shape 21 = .ok (.iconst 2, 1) := by decide +kernel
theorem d_L_shape_22 : decode b_L_shape 22 = .ok (.ireturn, 1) := by decide +kernel
theorem d_L_shape_23 : decode b_L_shape 23 = .ok (.astore 5, 2) := by decide +kernel
theorem d_L_shape_25 : decode b_L_shape 25 = .ok (.iconst 3, 1) := by decide +kernel
theorem d_L_shape_26 : decode b_L_shape 26 = .ok (.ireturn, 1) := by decide +kernel
theorem d_L_shape_27 : decode b_L_shape 27 = .ok (.iconst 0, 1) := by decide +kernel
theorem d_L_shape_28 : decode b_L_shape 28 = .ok (.ireturn, 1) := by decide +kernel
theorem d_L_corner_0 : decode b_L_corner 0 = .ok (.aload 4, 2) := by decide +kernel
theorem d_L_corner_2 : decode b_L_corner 2 = .ok (.iconst 0, 1) := by decide +kernel
theorem d_L_corner_3 : decode b_L_corner 3 = .ok (.aload_n 0, 1) := by decide +kernel
theorem d_L_corner_4 : decode b_L_corner 4 = .ok (.iload_n 1, 1) := by decide +kernel
theorem d_L_corner_5 : decode b_L_corner 5 = .ok (.iload_n 2, 1) := by decide +kernel
theorem d_L_corner_6 : decode b_L_corner 6 = .ok (.iload_n 3, 1) := by decide +kernel
theorem d_L_corner_7 : decode b_L_corner 7 = .ok (.invokevirtual 23, 3) := by decide +kernel
theorem d_L_corner_10 : decode b_L_corner 10 = .ok (.i2l, 1) := by decide +kernel
theorem d_L_corner_11 : decode b_L_corner 11 = .ok (.lastore, 1) := by decide +kernel
theorem d_L_corner_12 : decode b_L_corner 12 = .ok (.goto 15, 3) := by decide +kernel
theorem d_L_corner_15 : decode b_L_corner 15 = .ok (.astore 5, 2) := by decide +kernel
theorem d_L_corner_17 : decode b_L_corner 17 = .ok (.iconst 1, 1) := by decide +kernel
theorem d_L_corner_18 : decode b_L_corner 18 = .ok (.ireturn, 1) := by decide +kernel
theorem d_L_corner_19 : decode b_L_corner 19 = .ok (.astore 5, 2) := by decide +kernel
theorem d_L_corner_21 : decode b_L_corner 21 = .ok (.iconst 2, 1) := by decide +kernel
theorem d_L_corner_22 : decode b_L_corner 22 = .ok (.ireturn, 1) := by decide +kernel
theorem d_L_corner_23 : decode b_L_corner 23 = .ok (.astore 5, 2) := by decide +kernel
theorem d_L_corner_25 : decode b_L_corner 25 = .ok (.iconst 3, 1) := by decide +kernel
theorem d_L_corner_26 : decode b_L_corner 26 = .ok (.ireturn, 1) := by decide +kernel
theorem d_L_corner_27 : decode b_L_corner 27 = .ok (.iconst 0, 1) := by decide +kernel
theorem d_L_corner_28 : decode b_L_corner 28 = .ok (.ireturn, 1) := by decide +kernel
theorem d_L_close_0 : decode b_L_close 0 = .ok (.aload_n 2, 1) := by decide +kernel
theorem d_L_close_1 : decode b_L_close 1 = .ok (.iconst 0, 1) := by decide +kernel
theorem d_L_close_2 : decode b_L_close 2 = .ok (.aload_n 0, 1) := by decide +kernel
theorem d_L_close_3 : decode b_L_close 3 = .ok (.iload_n 1, 1) := by decide +kernel
theorem d_L_close_4 : decode b_L_close 4 = .ok (.invokevirtual 26, 3) := by decide +kernel
theorem d_L_close_7 : decode b_L_close 7 = .ok (.ifCond .eq 7, 3) := by decide +kernel
theorem d_L_close_10 : decode b_L_close 10 = .ok (.lconst 1, 1) := by decide +kernel
theorem d_L_close_11 : decode b_L_close 11 = .ok (.goto 4, 3) := by decide +kernel
theorem d_L_close_14 : decode b_L_close 14 = .ok (.lconst 0, 1) := by decide +kernel
theorem d_L_close_15 : decode b_L_close 15 = .ok (.lastore, 1) := by decide +kernel
theorem d_L_close_16 : decode b_L_close 16 = .ok (.goto 6, 3) := by decide +kernel
theorem d_L_close_19 : decode b_L_close 19 = .ok (.astore_n 3, 1) := by decide +kernel
theorem d_L_close_20 : decode b_L_close 20 = .ok (.iconst 1, 1) := by decide +kernel
theorem d_L_close_21 : decode b_L_close 21 = .ok (.ireturn, 1) := by decide +kernel
theorem d_L_close_22 : decode b_L_close 22 = .ok (.iconst 0, 1) := by decide +kernel
theorem d_L_close_23 : decode b_L_close 23 = .ok (.ireturn, 1) := by decide +kernel
theorem d_L_unsure_0 : decode b_L_unsure 0 = .ok (.aload_n 3, 1) := by decide +kernel
theorem d_L_unsure_1 : decode b_L_unsure 1 = .ok (.iconst 0, 1) := by decide +kernel
theorem d_L_unsure_2 : decode b_L_unsure 2 = .ok (.aload_n 0, 1) := by decide +kernel
theorem d_L_unsure_3 : decode b_L_unsure 3 = .ok (.iload_n 1, 1) := by decide +kernel
theorem d_L_unsure_4 : decode b_L_unsure 4 = .ok (.iload_n 2, 1) := by decide +kernel
theorem d_L_unsure_5 : decode b_L_unsure 5 = .ok (.invokevirtual 30, 3) := by decide +kernel
theorem d_L_unsure_8 : decode b_L_unsure 8 = .ok (.ifCond .eq 7, 3) := by decide +kernel
theorem d_L_unsure_11 : decode b_L_unsure 11 = .ok (.lconst 1, 1) := by decide +kernel
theorem d_L_unsure_12 : decode b_L_unsure 12 = .ok (.goto 4, 3) := by decide +kernel
theorem d_L_unsure_15 : decode b_L_unsure 15 = .ok (.lconst 0, 1) := by decide +kernel
theorem d_L_unsure_16 : decode b_L_unsure 16 = .ok (.lastore, 1) := by decide +kernel
theorem d_L_unsure_17 : decode b_L_unsure 17 = .ok (.goto 7, 3) := by decide +kernel
theorem d_L_unsure_20 : decode b_L_unsure 20 = .ok (.astore 4, 2) := by decide +kernel
theorem d_L_unsure_22 : decode b_L_unsure 22 = .ok (.iconst 1, 1) := by decide +kernel
theorem d_L_unsure_23 : decode b_L_unsure 23 = .ok (.ireturn, 1) := by decide +kernel
theorem d_L_unsure_24 : decode b_L_unsure 24 = .ok (.iconst 0, 1) := by decide +kernel
theorem d_L_unsure_25 : decode b_L_unsure 25 = .ok (.ireturn, 1) := by decide +kernel
theorem d_L_force_0 : decode b_L_force 0 = .ok (.aload_n 3, 1) := by decide +kernel
theorem d_L_force_1 : decode b_L_force 1 = .ok (.iconst 0, 1) := by decide +kernel
theorem d_L_force_2 : decode b_L_force 2 = .ok (.aload_n 0, 1) := by decide +kernel
theorem d_L_force_3 : decode b_L_force 3 = .ok (.iload_n 1, 1) := by decide +kernel
theorem d_L_force_4 : decode b_L_force 4 = .ok (.iload_n 2, 1) := by decide +kernel
theorem d_L_force_5 : decode b_L_force 5 = .ok (.invokevirtual 34, 3) := by decide +kernel
theorem d_L_force_8 : decode b_L_force 8 = .ok (.i2l, 1) := by decide +kernel
theorem d_L_force_9 : decode b_L_force 9 = .ok (.lastore, 1) := by decide +kernel
theorem d_L_force_10 : decode b_L_force 10 = .ok (.goto 11, 3) := by decide +kernel
theorem d_L_force_13 : decode b_L_force 13 = .ok (.astore 4, 2) := by decide +kernel
theorem d_L_force_15 : decode b_L_force 15 = .ok (.iconst 1, 1) := by decide +kernel
theorem d_L_force_16 : decode b_L_force 16 = .ok (.ireturn, 1) := by decide +kernel
theorem d_L_force_17 : decode b_L_force 17 = .ok (.astore 4, 2) := by decide +kernel
theorem d_L_force_19 : decode b_L_force 19 = .ok (.iconst 2, 1) := by decide +kernel
theorem d_L_force_20 : decode b_L_force 20 = .ok (.ireturn, 1) := by decide +kernel
theorem d_L_force_21 : decode b_L_force 21 = .ok (.iconst 0, 1) := by decide +kernel
theorem d_L_force_22 : decode b_L_force 22 = .ok (.ireturn, 1) := by decide +kernel
theorem d_L_inside_0 : decode b_L_inside 0 = .ok (.aload 5, 2) := by decide +kernel
theorem d_L_inside_2 : decode b_L_inside 2 = .ok (.iconst 0, 1) := by decide +kernel
theorem d_L_inside_3 : decode b_L_inside 3 = .ok (.aload_n 0, 1) := by decide +kernel
theorem d_L_inside_4 : decode b_L_inside 4 = .ok (.iload_n 1, 1) := by decide +kernel
theorem d_L_inside_5 : decode b_L_inside 5 = .ok (.iload_n 2, 1) := by decide +kernel
theorem d_L_inside_6 : decode b_L_inside 6 = .ok (.iload_n 3, 1) := by decide +kernel
theorem d_L_inside_7 : decode b_L_inside 7 = .ok (.iload 4, 2) := by decide +kernel
theorem d_L_inside_9 : decode b_L_inside 9 = .ok (.invokevirtual 38, 3) := by decide +kernel
theorem d_L_inside_12 : decode b_L_inside 12 = .ok (.i2l, 1) := by decide +kernel
theorem d_L_inside_13 : decode b_L_inside 13 = .ok (.lastore, 1) := by decide +kernel
theorem d_L_inside_14 : decode b_L_inside 14 = .ok (.goto 11, 3) := by decide +kernel
theorem d_L_inside_17 : decode b_L_inside 17 = .ok (.astore 6, 2) := by decide +kernel
theorem d_L_inside_19 : decode b_L_inside 19 = .ok (.iconst 1, 1) := by decide +kernel
theorem d_L_inside_20 : decode b_L_inside 20 = .ok (.ireturn, 1) := by decide +kernel
theorem d_L_inside_21 : decode b_L_inside 21 = .ok (.astore 6, 2) := by decide +kernel
theorem d_L_inside_23 : decode b_L_inside 23 = .ok (.iconst 2, 1) := by decide +kernel
theorem d_L_inside_24 : decode b_L_inside 24 = .ok (.ireturn, 1) := by decide +kernel
theorem d_L_inside_25 : decode b_L_inside 25 = .ok (.iconst 0, 1) := by decide +kernel
theorem d_L_inside_26 : decode b_L_inside 26 = .ok (.ireturn, 1) := by decide +kernel
theorem d_L_threeWay_0 : decode b_L_threeWay 0 = .ok (.aload 5, 2) := by decide +kernel
theorem d_L_threeWay_2 : decode b_L_threeWay 2 = .ok (.iconst 0, 1) := by decide +kernel
theorem d_L_threeWay_3 : decode b_L_threeWay 3 = .ok (.aload_n 0, 1) := by decide +kernel
theorem d_L_threeWay_4 : decode b_L_threeWay 4 = .ok (.iload_n 1, 1) := by decide +kernel
theorem d_L_threeWay_5 : decode b_L_threeWay 5 = .ok (.iload_n 2, 1) := by decide +kernel
theorem d_L_threeWay_6 : decode b_L_threeWay 6 = .ok (.iload_n 3, 1) := by decide +kernel
theorem d_L_threeWay_7 : decode b_L_threeWay 7 = .ok (.iload 4, 2) := by decide +kernel
theorem d_L_threeWay_9 : decode b_L_threeWay 9 = .ok (.invokevirtual 42, 3) := by decide +kernel
theorem d_L_threeWay_12 : decode b_L_threeWay 12 = .ok (.i2l, 1) := by decide +kernel
theorem d_L_threeWay_13 : decode b_L_threeWay 13 = .ok (.lastore, 1) := by decide +kernel
theorem d_L_threeWay_14 : decode b_L_threeWay 14 = .ok (.goto 11, 3) := by decide +kernel
theorem d_L_threeWay_17 : decode b_L_threeWay 17 = .ok (.astore 6, 2) := by decide +kernel
theorem d_L_threeWay_19 : decode b_L_threeWay 19 = .ok (.iconst 1, 1) := by decide +kernel
theorem d_L_threeWay_20 : decode b_L_threeWay 20 = .ok (.ireturn, 1) := by decide +kernel
theorem d_L_threeWay_21 : decode b_L_threeWay 21 = .ok (.astore 6, 2) := by decide +kernel
theorem d_L_threeWay_23 : decode b_L_threeWay 23 = .ok (.iconst 2, 1) := by decide +kernel
theorem d_L_threeWay_24 : decode b_L_threeWay 24 = .ok (.ireturn, 1) := by decide +kernel
theorem d_L_threeWay_25 : decode b_L_threeWay 25 = .ok (.iconst 0, 1) := by decide +kernel
theorem d_L_threeWay_26 : decode b_L_threeWay 26 = .ok (.ireturn, 1) := by decide +kernel
theorem d_L_area_0 : decode b_L_area 0 = .ok (.aload_n 3, 1) := by decide +kernel
theorem d_L_area_1 : decode b_L_area 1 = .ok (.iconst 0, 1) := by decide +kernel
theorem d_L_area_2 : decode b_L_area 2 = .ok (.aload_n 0, 1) := by decide +kernel
theorem d_L_area_3 : decode b_L_area 3 = .ok (.iload_n 1, 1) := by decide +kernel
theorem d_L_area_4 : decode b_L_area 4 = .ok (.iload_n 2, 1) := by decide +kernel
theorem d_L_area_5 : decode b_L_area 5 = .ok (.invokevirtual 45, 3) := by decide +kernel
theorem d_L_area_8 : decode b_L_area 8 = .ok (.i2l, 1) := by decide +kernel
theorem d_L_area_9 : decode b_L_area 9 = .ok (.lastore, 1) := by decide +kernel
theorem d_L_area_10 : decode b_L_area 10 = .ok (.goto 11, 3) := by decide +kernel
theorem d_L_area_13 : decode b_L_area 13 = .ok (.astore 4, 2) := by decide +kernel
theorem d_L_area_15 : decode b_L_area 15 = .ok (.iconst 1, 1) := by decide +kernel
theorem d_L_area_16 : decode b_L_area 16 = .ok (.ireturn, 1) := by decide +kernel
theorem d_L_area_17 : decode b_L_area 17 = .ok (.astore 4, 2) := by decide +kernel
theorem d_L_area_19 : decode b_L_area 19 = .ok (.iconst 2, 1) := by decide +kernel
theorem d_L_area_20 : decode b_L_area 20 = .ok (.ireturn, 1) := by decide +kernel
theorem d_L_area_21 : decode b_L_area 21 = .ok (.iconst 0, 1) := by decide +kernel
theorem d_L_area_22 : decode b_L_area 22 = .ok (.ireturn, 1) := by decide +kernel
theorem d_L_misfit_0 : decode b_L_misfit 0 = .ok (.aload_n 3, 1) := by decide +kernel
theorem d_L_misfit_1 : decode b_L_misfit 1 = .ok (.iconst 0, 1) := by decide +kernel
theorem d_L_misfit_2 : decode b_L_misfit 2 = .ok (.aload_n 0, 1) := by decide +kernel
theorem d_L_misfit_3 : decode b_L_misfit 3 = .ok (.iload_n 1, 1) := by decide +kernel
theorem d_L_misfit_4 : decode b_L_misfit 4 = .ok (.iload_n 2, 1) := by decide +kernel
theorem d_L_misfit_5 : decode b_L_misfit 5 = .ok (.invokevirtual 48, 3) := by decide +kernel
theorem d_L_misfit_8 : decode b_L_misfit 8 = .ok (.i2l, 1) := by decide +kernel
theorem d_L_misfit_9 : decode b_L_misfit 9 = .ok (.lastore, 1) := by decide +kernel
theorem d_L_misfit_10 : decode b_L_misfit 10 = .ok (.goto 11, 3) := by decide +kernel
theorem d_L_misfit_13 : decode b_L_misfit 13 = .ok (.astore 4, 2) := by decide +kernel
theorem d_L_misfit_15 : decode b_L_misfit 15 = .ok (.iconst 1, 1) := by decide +kernel
theorem d_L_misfit_16 : decode b_L_misfit 16 = .ok (.ireturn, 1) := by decide +kernel
theorem d_L_misfit_17 : decode b_L_misfit 17 = .ok (.astore 4, 2) := by decide +kernel
theorem d_L_misfit_19 : decode b_L_misfit 19 = .ok (.iconst 2, 1) := by decide +kernel
theorem d_L_misfit_20 : decode b_L_misfit 20 = .ok (.ireturn, 1) := by decide +kernel
theorem d_L_misfit_21 : decode b_L_misfit 21 = .ok (.iconst 0, 1) := by decide +kernel
theorem d_L_misfit_22 : decode b_L_misfit 22 = .ok (.ireturn, 1) := by decide +kernel
theorem d_L_distance_0 : decode b_L_distance 0 = .ok (.aload 4, 2) := by decide +kernel
theorem d_L_distance_2 : decode b_L_distance 2 = .ok (.iconst 0, 1) := by decide +kernel
theorem d_L_distance_3 : decode b_L_distance 3 = .ok (.aload_n 0, 1) := by decide +kernel
theorem d_L_distance_4 : decode b_L_distance 4 = .ok (.iload_n 1, 1) := by decide +kernel
theorem d_L_distance_5 : decode b_L_distance 5 = .ok (.iload_n 2, 1) := by decide +kernel
theorem d_L_distance_6 : decode b_L_distance 6 = .ok (.iload_n 3, 1) := by decide +kernel
theorem d_L_distance_7 : decode b_L_distance 7 = .ok (.invokevirtual 51, 3) := by decide +kernel
theorem d_L_distance_10 : decode b_L_distance 10 = .ok (.i2l, 1) := by decide +kernel
theorem d_L_distance_11 : decode b_L_distance 11 = .ok (.lastore, 1) := by decide +kernel
theorem d_L_distance_12 : decode b_L_distance 12 = .ok (.goto 11, 3) := by decide +kernel
theorem d_L_distance_15 : decode b_L_distance 15 = .ok (.astore 5, 2) := by decide +kernel
theorem d_L_distance_17 : decode b_L_distance 17 = .ok (.iconst 1, 1) := by decide +kernel
theorem d_L_distance_18 : decode b_L_distance 18 = .ok (.ireturn, 1) := by decide +kernel
theorem d_L_distance_19 : decode b_L_distance 19 = .ok (.astore 5, 2) := by decide +kernel
theorem d_L_distance_21 : decode b_L_distance 21 = .ok (.iconst 2, 1) := by decide +kernel
theorem d_L_distance_22 : decode b_L_distance 22 = .ok (.ireturn, 1) := by decide +kernel
theorem d_L_distance_23 : decode b_L_distance 23 = .ok (.iconst 0, 1) := by decide +kernel
theorem d_L_distance_24 : decode b_L_distance 24 = .ok (.ireturn, 1) := by decide +kernel
theorem d_L_name_0 : decode b_L_name 0 = .ok (.aload_n 0, 1) := by decide +kernel
theorem d_L_name_1 : decode b_L_name 1 = .ok (.iload_n 1, 1) := by decide +kernel
theorem d_L_name_2 : decode b_L_name 2 = .ok (.iload_n 2, 1) := by decide +kernel
theorem d_L_name_3 : decode b_L_name 3 = .ok (.iload_n 3, 1) := by decide +kernel
theorem d_L_name_4 : decode b_L_name 4 = .ok (.iload 4, 2) := by decide +kernel
theorem d_L_name_6 : decode b_L_name 6 = .ok (.invokevirtual 54, 3) := by decide +kernel
theorem d_L_name_9 : decode b_L_name 9 = .ok (.goto 15, 3) := by decide +kernel
theorem d_L_name_12 : decode b_L_name 12 = .ok (.astore 5, 2) := by decide +kernel
theorem d_L_name_14 : decode b_L_name 14 = .ok (.iconst 1, 1) := by decide +kernel
theorem d_L_name_15 : decode b_L_name 15 = .ok (.ireturn, 1) := by decide +kernel
theorem d_L_name_16 : decode b_L_name 16 = .ok (.astore 5, 2) := by decide +kernel
theorem d_L_name_18 : decode b_L_name 18 = .ok (.iconst 2, 1) := by decide +kernel
theorem d_L_name_19 : decode b_L_name 19 = .ok (.ireturn, 1) := by decide +kernel
theorem d_L_name_20 : decode b_L_name 20 = .ok (.astore 5, 2) := by decide +kernel
theorem d_L_name_22 : decode b_L_name 22 = .ok (.iconst 3, 1) := by decide +kernel
theorem d_L_name_23 : decode b_L_name 23 = .ok (.ireturn, 1) := by decide +kernel
theorem d_L_name_24 : decode b_L_name 24 = .ok (.iconst 0, 1) := by decide +kernel
theorem d_L_name_25 : decode b_L_name 25 = .ok (.ireturn, 1) := by decide +kernel
theorem d_L_nameOn_0 : decode b_L_nameOn 0 = .ok (.aload_n 3, 1) := by decide +kernel
theorem d_L_nameOn_1 : decode b_L_nameOn 1 = .ok (.iconst 0, 1) := by decide +kernel
theorem d_L_nameOn_2 : decode b_L_nameOn 2 = .ok (.aload_n 0, 1) := by decide +kernel
theorem d_L_nameOn_3 : decode b_L_nameOn 3 = .ok (.iload_n 1, 1) := by decide +kernel
theorem d_L_nameOn_4 : decode b_L_nameOn 4 = .ok (.iload_n 2, 1) := by decide +kernel
theorem d_L_nameOn_5 : decode b_L_nameOn 5 = .ok (.invokevirtual 58, 3) := by decide +kernel
theorem d_L_nameOn_8 : decode b_L_nameOn 8 = .ok (.i2l, 1) := by decide +kernel
theorem d_L_nameOn_9 : decode b_L_nameOn 9 = .ok (.lastore, 1) := by decide +kernel
theorem d_L_nameOn_10 : decode b_L_nameOn 10 = .ok (.goto 11, 3) := by decide +kernel
theorem d_L_nameOn_13 : decode b_L_nameOn 13 = .ok (.astore 4, 2) := by decide +kernel
theorem d_L_nameOn_15 : decode b_L_nameOn 15 = .ok (.iconst 1, 1) := by decide +kernel
theorem d_L_nameOn_16 : decode b_L_nameOn 16 = .ok (.ireturn, 1) := by decide +kernel
theorem d_L_nameOn_17 : decode b_L_nameOn 17 = .ok (.astore 4, 2) := by decide +kernel
theorem d_L_nameOn_19 : decode b_L_nameOn 19 = .ok (.iconst 2, 1) := by decide +kernel
theorem d_L_nameOn_20 : decode b_L_nameOn 20 = .ok (.ireturn, 1) := by decide +kernel
theorem d_L_nameOn_21 : decode b_L_nameOn 21 = .ok (.iconst 0, 1) := by decide +kernel
theorem d_L_nameOn_22 : decode b_L_nameOn 22 = .ok (.ireturn, 1) := by decide +kernel
theorem d_L_mark_0 : decode b_L_mark 0 = .ok (.aload 5, 2) := by decide +kernel
theorem d_L_mark_2 : decode b_L_mark 2 = .ok (.iconst 0, 1) := by decide +kernel
theorem d_L_mark_3 : decode b_L_mark 3 = .ok (.aload_n 0, 1) := by decide +kernel
theorem d_L_mark_4 : decode b_L_mark 4 = .ok (.iload_n 1, 1) := by decide +kernel
theorem d_L_mark_5 : decode b_L_mark 5 = .ok (.iload_n 2, 1) := by decide +kernel
theorem d_L_mark_6 : decode b_L_mark 6 = .ok (.iload_n 3, 1) := by decide +kernel
theorem d_L_mark_7 : decode b_L_mark 7 = .ok (.iload 4, 2) := by decide +kernel
theorem d_L_mark_9 : decode b_L_mark 9 = .ok (.invokevirtual 61, 3) := by decide +kernel
theorem d_L_mark_12 : decode b_L_mark 12 = .ok (.i2l, 1) := by decide +kernel
theorem d_L_mark_13 : decode b_L_mark 13 = .ok (.lastore, 1) := by decide +kernel
theorem d_L_mark_14 : decode b_L_mark 14 = .ok (.goto 11, 3) := by decide +kernel
theorem d_L_mark_17 : decode b_L_mark 17 = .ok (.astore 6, 2) := by decide +kernel
theorem d_L_mark_19 : decode b_L_mark 19 = .ok (.iconst 1, 1) := by decide +kernel
theorem d_L_mark_20 : decode b_L_mark 20 = .ok (.ireturn, 1) := by decide +kernel
theorem d_L_mark_21 : decode b_L_mark 21 = .ok (.astore 6, 2) := by decide +kernel
theorem d_L_mark_23 : decode b_L_mark 23 = .ok (.iconst 2, 1) := by decide +kernel
theorem d_L_mark_24 : decode b_L_mark 24 = .ok (.ireturn, 1) := by decide +kernel
theorem d_L_mark_25 : decode b_L_mark 25 = .ok (.iconst 0, 1) := by decide +kernel
theorem d_L_mark_26 : decode b_L_mark 26 = .ok (.ireturn, 1) := by decide +kernel
theorem d_L_placed_0 : decode b_L_placed 0 = .ok (.aload 4, 2) := by decide +kernel
theorem d_L_placed_2 : decode b_L_placed 2 = .ok (.iconst 0, 1) := by decide +kernel
theorem d_L_placed_3 : decode b_L_placed 3 = .ok (.aload_n 0, 1) := by decide +kernel
theorem d_L_placed_4 : decode b_L_placed 4 = .ok (.iload_n 1, 1) := by decide +kernel
theorem d_L_placed_5 : decode b_L_placed 5 = .ok (.iload_n 2, 1) := by decide +kernel
theorem d_L_placed_6 : decode b_L_placed 6 = .ok (.iload_n 3, 1) := by decide +kernel
theorem d_L_placed_7 : decode b_L_placed 7 = .ok (.invokevirtual 64, 3) := by decide +kernel
theorem d_L_placed_10 : decode b_L_placed 10 = .ok (.i2l, 1) := by decide +kernel
theorem d_L_placed_11 : decode b_L_placed 11 = .ok (.lastore, 1) := by decide +kernel
theorem d_L_placed_12 : decode b_L_placed 12 = .ok (.goto 15, 3) := by decide +kernel
theorem d_L_placed_15 : decode b_L_placed 15 = .ok (.astore 5, 2) := by decide +kernel
theorem d_L_placed_17 : decode b_L_placed 17 = .ok (.iconst 1, 1) := by decide +kernel
theorem d_L_placed_18 : decode b_L_placed 18 = .ok (.ireturn, 1) := by decide +kernel
theorem d_L_placed_19 : decode b_L_placed 19 = .ok (.astore 5, 2) := by decide +kernel
theorem d_L_placed_21 : decode b_L_placed 21 = .ok (.iconst 2, 1) := by decide +kernel
theorem d_L_placed_22 : decode b_L_placed 22 = .ok (.ireturn, 1) := by decide +kernel
theorem d_L_placed_23 : decode b_L_placed 23 = .ok (.astore 5, 2) := by decide +kernel
theorem d_L_placed_25 : decode b_L_placed 25 = .ok (.iconst 3, 1) := by decide +kernel
theorem d_L_placed_26 : decode b_L_placed 26 = .ok (.ireturn, 1) := by decide +kernel
theorem d_L_placed_27 : decode b_L_placed 27 = .ok (.iconst 0, 1) := by decide +kernel
theorem d_L_placed_28 : decode b_L_placed 28 = .ok (.ireturn, 1) := by decide +kernel
theorem d_L_masked_0 : decode b_L_masked 0 = .ok (.aload 5, 2) := by decide +kernel
theorem d_L_masked_2 : decode b_L_masked 2 = .ok (.iconst 0, 1) := by decide +kernel
theorem d_L_masked_3 : decode b_L_masked 3 = .ok (.aload_n 0, 1) := by decide +kernel
theorem d_L_masked_4 : decode b_L_masked 4 = .ok (.iload_n 1, 1) := by decide +kernel
theorem d_L_masked_5 : decode b_L_masked 5 = .ok (.iload_n 2, 1) := by decide +kernel
theorem d_L_masked_6 : decode b_L_masked 6 = .ok (.iload_n 3, 1) := by decide +kernel
theorem d_L_masked_7 : decode b_L_masked 7 = .ok (.iload 4, 2) := by decide +kernel
theorem d_L_masked_9 : decode b_L_masked 9 = .ok (.invokevirtual 67, 3) := by decide +kernel
theorem d_L_masked_12 : decode b_L_masked 12 = .ok (.i2l, 1) := by decide +kernel
theorem d_L_masked_13 : decode b_L_masked 13 = .ok (.lastore, 1) := by decide +kernel
theorem d_L_masked_14 : decode b_L_masked 14 = .ok (.goto 11, 3) := by decide +kernel
theorem d_L_masked_17 : decode b_L_masked 17 = .ok (.astore 6, 2) := by decide +kernel
theorem d_L_masked_19 : decode b_L_masked 19 = .ok (.iconst 1, 1) := by decide +kernel
theorem d_L_masked_20 : decode b_L_masked 20 = .ok (.ireturn, 1) := by decide +kernel
theorem d_L_masked_21 : decode b_L_masked 21 = .ok (.astore 6, 2) := by decide +kernel
theorem d_L_masked_23 : decode b_L_masked 23 = .ok (.iconst 2, 1) := by decide +kernel
theorem d_L_masked_24 : decode b_L_masked 24 = .ok (.ireturn, 1) := by decide +kernel
theorem d_L_masked_25 : decode b_L_masked 25 = .ok (.iconst 0, 1) := by decide +kernel
theorem d_L_masked_26 : decode b_L_masked 26 = .ok (.ireturn, 1) := by decide +kernel
