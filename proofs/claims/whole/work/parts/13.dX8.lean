theorem dX8_init_0 : decode cX8_init 0 = .ok (.aload_n 0, 1) := by decide +kernel
theorem dX8_init_1 : decode cX8_init 1 = .ok (.invokespecial 1, 3) := by decide +kernel
theorem dX8_init_4 : decode cX8_init 4 = .ok (.aload_n 0, 1) := by decide +kernel
theorem dX8_init_5 : decode cX8_init 5 = .ok (.new 7, 3) := by decide +kernel
theorem dX8_init_8 : decode cX8_init 8 = .ok (.dup, 1) := by decide +kernel
theorem dX8_init_9 : decode cX8_init 9 = .ok (.invokespecial 9, 3) := by decide +kernel
theorem dX8_init_12 : decode cX8_init 12 = .ok (.putfield 10, 3) := by decide +kernel
theorem dX8_init_15 : decode cX8_init 15 = .ok (.aload_n 0, 1) := by decide +kernel
theorem dX8_init_16 : decode cX8_init 16 = .ok (.new 7, 3) := by decide +kernel
theorem dX8_init_19 : decode cX8_init 19 = .ok (.dup, 1) := by decide +kernel
theorem dX8_init_20 : decode cX8_init 20 = .ok (.invokespecial 9, 3) := by decide +kernel
theorem dX8_init_23 : decode cX8_init 23 = .ok (.putfield 16, 3) := by decide +kernel
theorem dX8_init_26 : decode cX8_init 26 = .ok (.aload_n 0, 1) := by decide +kernel
theorem dX8_init_27 : decode cX8_init 27 = .ok (.new 19, 3) := by decide +kernel
theorem dX8_init_30 : decode cX8_init 30 = .ok (.dup, 1) := by decide +kernel
theorem dX8_init_31 : decode cX8_init 31 = .ok (.invokespecial 21, 3) := by decide +kernel
theorem dX8_init_34 : decode cX8_init 34 = .ok (.putfield 22, 3) := by decide +kernel
theorem dX8_init_37 : decode cX8_init 37 = .ok (.aload_n 0, 1) := by decide +kernel
theorem dX8_init_38 : decode cX8_init 38 = .ok (.new 26, 3) := by decide +kernel
theorem dX8_init_41 : decode cX8_init 41 = .ok (.dup, 1) := by decide +kernel
theorem dX8_init_42 : decode cX8_init 42 = .ok (.invokespecial 28, 3) := by decide +kernel
theorem dX8_init_45 : decode cX8_init 45 = .ok (.putfield 29, 3) := by decide +kernel
theorem dX8_init_48 : decode cX8_init 48 = .ok (.aload_n 0, 1) := by decide +kernel
theorem dX8_init_49 : decode cX8_init 49 = .ok (.new 33, 3) := by decide +kernel
theorem dX8_init_52 : decode cX8_init 52 = .ok (.dup, 1) := by decide +kernel
theorem dX8_init_53 : decode cX8_init 53 = .ok (.invokespecial 35, 3) := by decide +kernel
theorem dX8_init_56 : decode cX8_init 56 = .ok (.putfield 36, 3) := by decide +kernel
theorem dX8_init_59 : decode cX8_init 59 = .ok (.aload_n 0, 1) := by decide +kernel
theorem dX8_init_60 : decode cX8_init 60 = .ok (.iconst 3, 1) := by decide +kernel
theorem dX8_init_61 : decode cX8_init 61 = .ok (.newarray .int, 2) := by decide +kernel
theorem dX8_init_63 : decode cX8_init 63 = .ok (.putfield 40, 3) := by decide +kernel
theorem dX8_init_66 : decode cX8_init 66 = .ok (.aload_n 0, 1) := by decide +kernel
theorem dX8_init_67 : decode cX8_init 67 = .ok (.iconst 0, 1) := by decide +kernel
theorem dX8_init_68 : decode cX8_init 68 = .ok (.putfield 44, 3) := by decide +kernel
theorem dX8_init_71 : decode cX8_init 71 = .ok (.aload_n 0, 1) := by decide +kernel
theorem dX8_init_72 : decode cX8_init 72 = .ok (.iconst 0, 1) := by decide +kernel
theorem dX8_init_73 : decode cX8_init 73 = .ok (.putfield 48, 3) := by decide +kernel
theorem dX8_init_76 : decode cX8_init 76 = .ok (.return_, 1) := by decide +kernel
theorem dX8_points_0 : decode cX8_points 0 = .ok (.aload_n 0, 1) := by decide +kernel
theorem dX8_points_1 : decode cX8_points 1 = .ok (.getfield 16, 3) := by decide +kernel
theorem dX8_points_4 : decode cX8_points 4 = .ok (.aload_n 0, 1) := by decide +kernel
theorem dX8_points_5 : decode cX8_points 5 = .ok (.getfield 10, 3) := by decide +kernel
theorem dX8_points_8 : decode cX8_points 8 = .ok (.invokevirtual 51, 3) := by decide +kernel
theorem dX8_points_11 : decode cX8_points 11 = .ok (.aload_n 0, 1) := by decide +kernel
theorem dX8_points_12 : decode cX8_points 12 = .ok (.aload_n 0, 1) := by decide +kernel
theorem dX8_points_13 : decode cX8_points 13 = .ok (.getfield 16, 3) := by decide +kernel
theorem dX8_points_16 : decode cX8_points 16 = .ok (.iload_n 1, 1) := by decide +kernel
theorem dX8_points_17 : decode cX8_points 17 = .ok (.invokevirtual 55, 3) := by decide +kernel
theorem dX8_points_20 : decode cX8_points 20 = .ok (.invokevirtual 59, 3) := by decide +kernel
theorem dX8_points_23 : decode cX8_points 23 = .ok (.ireturn, 1) := by decide +kernel
theorem dX8_moves_0 : decode cX8_moves 0 = .ok (.aload_n 0, 1) := by decide +kernel
theorem dX8_moves_1 : decode cX8_moves 1 = .ok (.getfield 16, 3) := by decide +kernel
theorem dX8_moves_4 : decode cX8_moves 4 = .ok (.aload_n 0, 1) := by decide +kernel
theorem dX8_moves_5 : decode cX8_moves 5 = .ok (.getfield 10, 3) := by decide +kernel
theorem dX8_moves_8 : decode cX8_moves 8 = .ok (.invokevirtual 51, 3) := by decide +kernel
theorem dX8_moves_11 : decode cX8_moves 11 = .ok (.aload_n 0, 1) := by decide +kernel
theorem dX8_moves_12 : decode cX8_moves 12 = .ok (.aload_n 0, 1) := by decide +kernel
theorem dX8_moves_13 : decode cX8_moves 13 = .ok (.getfield 16, 3) := by decide +kernel
theorem dX8_moves_16 : decode cX8_moves 16 = .ok (.iload_n 1, 1) := by decide +kernel
theorem dX8_moves_17 : decode cX8_moves 17 = .ok (.invokevirtual 62, 3) := by decide +kernel
theorem dX8_moves_20 : decode cX8_moves 20 = .ok (.invokevirtual 59, 3) := by decide +kernel
theorem dX8_moves_23 : decode cX8_moves 23 = .ok (.ireturn, 1) := by decide +kernel
theorem dX8_drops_0 : decode cX8_drops 0 = .ok (.aload_n 0, 1) := by decide +kernel
theorem dX8_drops_1 : decode cX8_drops 1 = .ok (.getfield 16, 3) := by decide +kernel
theorem dX8_drops_4 : decode cX8_drops 4 = .ok (.aload_n 0, 1) := by decide +kernel
theorem dX8_drops_5 : decode cX8_drops 5 = .ok (.getfield 10, 3) := by decide +kernel
theorem dX8_drops_8 : decode cX8_drops 8 = .ok (.invokevirtual 51, 3) := by decide +kernel
theorem dX8_drops_11 : decode cX8_drops 11 = .ok (.aload_n 0, 1) := by decide +kernel
theorem dX8_drops_12 : decode cX8_drops 12 = .ok (.aload_n 0, 1) := by decide +kernel
theorem dX8_drops_13 : decode cX8_drops 13 = .ok (.getfield 16, 3) := by decide +kernel
theorem dX8_drops_16 : decode cX8_drops 16 = .ok (.iload_n 1, 1) := by decide +kernel
theorem dX8_drops_17 : decode cX8_drops 17 = .ok (.invokevirtual 65, 3) := by decide +kernel
theorem dX8_drops_20 : decode cX8_drops 20 = .ok (.invokevirtual 59, 3) := by decide +kernel
theorem dX8_drops_23 : decode cX8_drops 23 = .ok (.ireturn, 1) := by decide +kernel
theorem dX8_of_0 : decode cX8_of 0 = .ok (.iload_n 1, 1) := by decide +kernel
theorem dX8_of_1 : decode cX8_of 1 = .ok (.bipush 8, 2) := by decide +kernel
theorem dX8_of_3 : decode cX8_of 3 = .ok (.invokestatic 68, 3) := by decide +kernel
theorem dX8_of_6 : decode cX8_of 6 = .ok (.ifCond .ne 10, 3) := by decide +kernel
theorem dX8_of_9 : decode cX8_of 9 = .ok (.aload_n 0, 1) := by decide +kernel
theorem dX8_of_10 : decode cX8_of 10 = .ok (.bipush (-2), 2) := by decide +kernel
theorem dX8_of_12 : decode cX8_of 12 = .ok (.invokevirtual 72, 3) := by decide +kernel
theorem dX8_of_15 : decode cX8_of 15 = .ok (.ireturn, 1) := by decide +kernel
theorem dX8_of_16 : decode cX8_of 16 = .ok (.iload_n 1, 1) := by decide +kernel
theorem dX8_of_17 : decode cX8_of 17 = .ok (.bipush 7, 2) := by decide +kernel
theorem dX8_of_19 : decode cX8_of 19 = .ok (.if_icmp .ne 10, 3) := by decide +kernel
theorem dX8_of_22 : decode cX8_of 22 = .ok (.aload_n 0, 1) := by decide +kernel
theorem dX8_of_23 : decode cX8_of 23 = .ok (.invokevirtual 75, 3) := by decide +kernel
theorem dX8_of_26 : decode cX8_of 26 = .ok (.goto 7, 3) := by decide +kernel
theorem dX8_of_29 : decode cX8_of 29 = .ok (.aload_n 0, 1) := by decide +kernel
theorem dX8_of_30 : decode cX8_of 30 = .ok (.invokevirtual 78, 3) := by decide +kernel
theorem dX8_of_33 : decode cX8_of 33 = .ok (.aload_n 0, 1) := by decide +kernel
theorem dX8_of_34 : decode cX8_of 34 = .ok (.iload_n 1, 1) := by decide +kernel
theorem dX8_of_35 : decode cX8_of 35 = .ok (.invokevirtual 81, 3) := by decide +kernel
theorem dX8_of_38 : decode cX8_of 38 = .ok (.ireturn, 1) := by decide +kernel
theorem dX8_element_0 : decode cX8_element 0 = .ok (.aload_n 0, 1) := by decide +kernel
theorem dX8_element_1 : decode cX8_element 1 = .ok (.invokevirtual 78, 3) := by decide +kernel
theorem dX8_element_4 : decode cX8_element 4 = .ok (.aload_n 0, 1) := by decide +kernel
theorem dX8_element_5 : decode cX8_element 5 = .ok (.getfield 36, 3) := by decide +kernel
theorem dX8_element_8 : decode cX8_element 8 = .ok (.getfield 84, 3) := by decide +kernel
theorem dX8_element_11 : decode cX8_element 11 = .ok (.getfield 88, 3) := by decide +kernel
theorem dX8_element_14 : decode cX8_element 14 = .ok (.astore_n 3, 1) := by decide +kernel
theorem dX8_element_15 : decode cX8_element 15 = .ok (.iload_n 1, 1) := by decide +kernel
theorem dX8_element_16 : decode cX8_element 16 = .ok (.aload_n 3, 1) := by decide +kernel
theorem dX8_element_17 : decode cX8_element 17 = .ok (.getfield 94, 3) := by decide +kernel
theorem dX8_element_20 : decode cX8_element 20 = .ok (.invokestatic 68, 3) := by decide +kernel
theorem dX8_element_23 : decode cX8_element 23 = .ok (.ifCond .eq 11, 3) := by decide +kernel
theorem dX8_element_26 : decode cX8_element 26 = .ok (.iload_n 2, 1) := by decide +kernel
theorem dX8_element_27 : decode cX8_element 27 = .ok (.iconst 4, 1) := by decide +kernel
theorem dX8_element_28 : decode cX8_element 28 = .ok (.invokestatic 68, 3) := by decide +kernel
theorem dX8_element_31 : decode cX8_element 31 = .ok (.ifCond .ne 10, 3) := by decide +kernel
theorem dX8_element_34 : decode cX8_element 34 = .ok (.aload_n 0, 1) := by decide +kernel
theorem dX8_element_35 : decode cX8_element 35 = .ok (.bipush (-2), 2) := by decide +kernel
theorem dX8_element_37 : decode cX8_element 37 = .ok (.invokevirtual 72, 3) := by decide +kernel
theorem dX8_element_40 : decode cX8_element 40 = .ok (.ireturn, 1) := by decide +kernel
theorem dX8_element_41 : decode cX8_element 41 = .ok (.iload_n 2, 1) := by decide +kernel
theorem dX8_element_42 : decode cX8_element 42 = .ok (.tableswitch 53 0 2 #[26, 33, 46], 26) := by decide +kernel
theorem dX8_element_68 : decode cX8_element 68 = .ok (.aload_n 3, 1) := by decide +kernel
theorem dX8_element_69 : decode cX8_element 69 = .ok (.getfield 100, 3) := by decide +kernel
theorem dX8_element_72 : decode cX8_element 72 = .ok (.iload_n 1, 1) := by decide +kernel
theorem dX8_element_73 : decode cX8_element 73 = .ok (.iaload, 1) := by decide +kernel
theorem dX8_element_74 : decode cX8_element 74 = .ok (.ireturn, 1) := by decide +kernel
theorem dX8_element_75 : decode cX8_element 75 = .ok (.aload_n 0, 1) := by decide +kernel
theorem dX8_element_76 : decode cX8_element 76 = .ok (.getfield 36, 3) := by decide +kernel
theorem dX8_element_79 : decode cX8_element 79 = .ok (.getfield 84, 3) := by decide +kernel
theorem dX8_element_82 : decode cX8_element 82 = .ok (.getfield 103, 3) := by decide +kernel
theorem dX8_element_85 : decode cX8_element 85 = .ok (.iload_n 1, 1) := by decide +kernel
theorem dX8_element_86 : decode cX8_element 86 = .ok (.iaload, 1) := by decide +kernel
theorem dX8_element_87 : decode cX8_element 87 = .ok (.ireturn, 1) := by decide +kernel
theorem dX8_element_88 : decode cX8_element 88 = .ok (.aload_n 3, 1) := by decide +kernel
theorem dX8_element_89 : decode cX8_element 89 = .ok (.getfield 106, 3) := by decide +kernel
theorem dX8_element_92 : decode cX8_element 92 = .ok (.iload_n 1, 1) := by decide +kernel
theorem dX8_element_93 : decode cX8_element 93 = .ok (.iaload, 1) := by decide +kernel
theorem dX8_element_94 : decode cX8_element 94 = .ok (.ireturn, 1) := by decide +kernel
theorem dX8_element_95 : decode cX8_element 95 = .ok (.aload_n 0, 1) := by decide +kernel
theorem dX8_element_96 : decode cX8_element 96 = .ok (.getfield 36, 3) := by decide +kernel
theorem dX8_element_99 : decode cX8_element 99 = .ok (.getfield 84, 3) := by decide +kernel
theorem dX8_element_102 : decode cX8_element 102 = .ok (.getfield 109, 3) := by decide +kernel
theorem dX8_element_105 : decode cX8_element 105 = .ok (.aload_n 0, 1) := by decide +kernel
theorem dX8_element_106 : decode cX8_element 106 = .ok (.getfield 36, 3) := by decide +kernel
theorem dX8_element_109 : decode cX8_element 109 = .ok (.getfield 84, 3) := by decide +kernel
theorem dX8_element_112 : decode cX8_element 112 = .ok (.getfield 103, 3) := by decide +kernel
theorem dX8_element_115 : decode cX8_element 115 = .ok (.iload_n 1, 1) := by decide +kernel
theorem dX8_element_116 : decode cX8_element 116 = .ok (.iaload, 1) := by decide +kernel
theorem dX8_element_117 : decode cX8_element 117 = .ok (.iaload, 1) := by decide +kernel
theorem dX8_element_118 : decode cX8_element 118 = .ok (.ireturn, 1) := by decide +kernel
theorem dX8_product_0 : decode cX8_product 0 = .ok (.aload_n 0, 1) := by decide +kernel
theorem dX8_product_1 : decode cX8_product 1 = .ok (.invokevirtual 78, 3) := by decide +kernel
theorem dX8_product_4 : decode cX8_product 4 = .ok (.aload_n 0, 1) := by decide +kernel
theorem dX8_product_5 : decode cX8_product 5 = .ok (.getfield 36, 3) := by decide +kernel
theorem dX8_product_8 : decode cX8_product 8 = .ok (.getfield 84, 3) := by decide +kernel
theorem dX8_product_11 : decode cX8_product 11 = .ok (.getfield 88, 3) := by decide +kernel
theorem dX8_product_14 : decode cX8_product 14 = .ok (.astore_n 3, 1) := by decide +kernel
theorem dX8_product_15 : decode cX8_product 15 = .ok (.iload_n 1, 1) := by decide +kernel
theorem dX8_product_16 : decode cX8_product 16 = .ok (.aload_n 3, 1) := by decide +kernel
theorem dX8_product_17 : decode cX8_product 17 = .ok (.getfield 94, 3) := by decide +kernel
theorem dX8_product_20 : decode cX8_product 20 = .ok (.invokestatic 68, 3) := by decide +kernel
theorem dX8_product_23 : decode cX8_product 23 = .ok (.ifCond .eq 14, 3) := by decide +kernel
theorem dX8_product_26 : decode cX8_product 26 = .ok (.iload_n 2, 1) := by decide +kernel
theorem dX8_product_27 : decode cX8_product 27 = .ok (.aload_n 3, 1) := by decide +kernel
theorem dX8_product_28 : decode cX8_product 28 = .ok (.getfield 94, 3) := by decide +kernel
theorem dX8_product_31 : decode cX8_product 31 = .ok (.invokestatic 68, 3) := by decide +kernel
theorem dX8_product_34 : decode cX8_product 34 = .ok (.ifCond .ne 10, 3) := by decide +kernel
theorem dX8_product_37 : decode cX8_product 37 = .ok (.aload_n 0, 1) := by decide +kernel
theorem dX8_product_38 : decode cX8_product 38 = .ok (.bipush (-2), 2) := by decide +kernel
theorem dX8_product_40 : decode cX8_product 40 = .ok (.invokevirtual 72, 3) := by decide +kernel
theorem dX8_product_43 : decode cX8_product 43 = .ok (.ireturn, 1) := by decide +kernel
theorem dX8_product_44 : decode cX8_product 44 = .ok (.aload_n 3, 1) := by decide +kernel
theorem dX8_product_45 : decode cX8_product 45 = .ok (.iload_n 1, 1) := by decide +kernel
theorem dX8_product_46 : decode cX8_product 46 = .ok (.iload_n 2, 1) := by decide +kernel
theorem dX8_product_47 : decode cX8_product 47 = .ok (.invokevirtual 112, 3) := by decide +kernel
theorem dX8_product_50 : decode cX8_product 50 = .ok (.ireturn, 1) := by decide +kernel
theorem dX8_sort_0 : decode cX8_sort 0 = .ok (.aload_n 0, 1) := by decide +kernel
theorem dX8_sort_1 : decode cX8_sort 1 = .ok (.invokevirtual 78, 3) := by decide +kernel
theorem dX8_sort_4 : decode cX8_sort 4 = .ok (.iload_n 1, 1) := by decide +kernel
theorem dX8_sort_5 : decode cX8_sort 5 = .ok (.aload_n 0, 1) := by decide +kernel
theorem dX8_sort_6 : decode cX8_sort 6 = .ok (.getfield 36, 3) := by decide +kernel
theorem dX8_sort_9 : decode cX8_sort 9 = .ok (.getfield 84, 3) := by decide +kernel
theorem dX8_sort_12 : decode cX8_sort 12 = .ok (.getfield 116, 3) := by decide +kernel
theorem dX8_sort_15 : decode cX8_sort 15 = .ok (.invokestatic 68, 3) := by decide +kernel
theorem dX8_sort_18 : decode cX8_sort 18 = .ok (.ifCond .eq 12, 3) := by decide +kernel
theorem dX8_sort_21 : decode cX8_sort 21 = .ok (.iload_n 2, 1) := by decide +kernel
theorem dX8_sort_22 : decode cX8_sort 22 = .ok (.bipush 6, 2) := by decide +kernel
theorem dX8_sort_24 : decode cX8_sort 24 = .ok (.invokestatic 68, 3) := by decide +kernel
theorem dX8_sort_27 : decode cX8_sort 27 = .ok (.ifCond .ne 10, 3) := by decide +kernel
theorem dX8_sort_30 : decode cX8_sort 30 = .ok (.aload_n 0, 1) := by decide +kernel
theorem dX8_sort_31 : decode cX8_sort 31 = .ok (.bipush (-2), 2) := by decide +kernel
theorem dX8_sort_33 : decode cX8_sort 33 = .ok (.invokevirtual 72, 3) := by decide +kernel
theorem dX8_sort_36 : decode cX8_sort 36 = .ok (.ireturn, 1) := by decide +kernel
theorem dX8_sort_37 : decode cX8_sort 37 = .ok (.aload_n 0, 1) := by decide +kernel
theorem dX8_sort_38 : decode cX8_sort 38 = .ok (.iload_n 1, 1) := by decide +kernel
theorem dX8_sort_39 : decode cX8_sort 39 = .ok (.iload_n 2, 1) := by decide +kernel
theorem dX8_sort_40 : decode cX8_sort 40 = .ok (.invokevirtual 119, 3) := by decide +kernel
theorem dX8_sort_43 : decode cX8_sort 43 = .ok (.ireturn, 1) := by decide +kernel
theorem dX8_times_0 : decode cX8_times 0 = .ok (.aload_n 0, 1) := by decide +kernel
theorem dX8_times_1 : decode cX8_times 1 = .ok (.invokevirtual 78, 3) := by decide +kernel
theorem dX8_times_4 : decode cX8_times 4 = .ok (.aload_n 0, 1) := by decide +kernel
theorem dX8_times_5 : decode cX8_times 5 = .ok (.getfield 36, 3) := by decide +kernel
theorem dX8_times_8 : decode cX8_times 8 = .ok (.getfield 84, 3) := by decide +kernel
theorem dX8_times_11 : decode cX8_times 11 = .ok (.getfield 116, 3) := by decide +kernel
theorem dX8_times_14 : decode cX8_times 14 = .ok (.istore 4, 2) := by decide +kernel
theorem dX8_times_16 : decode cX8_times 16 = .ok (.iload_n 1, 1) := by decide +kernel
theorem dX8_times_17 : decode cX8_times 17 = .ok (.iload 4, 2) := by decide +kernel
theorem dX8_times_19 : decode cX8_times 19 = .ok (.invokestatic 68, 3) := by decide +kernel
theorem dX8_times_22 : decode cX8_times 22 = .ok (.ifCond .eq 21, 3) := by decide +kernel
theorem dX8_times_25 : decode cX8_times 25 = .ok (.iload_n 2, 1) := by decide +kernel
theorem dX8_times_26 : decode cX8_times 26 = .ok (.iload 4, 2) := by decide +kernel
theorem dX8_times_28 : decode cX8_times 28 = .ok (.invokestatic 68, 3) := by decide +kernel
theorem dX8_times_31 : decode cX8_times 31 = .ok (.ifCond .eq 12, 3) := by decide +kernel
theorem dX8_times_34 : decode cX8_times 34 = .ok (.iload_n 3, 1) := by decide +kernel
theorem dX8_times_35 : decode cX8_times 35 = .ok (.iload 4, 2) := by decide +kernel
theorem dX8_times_37 : decode cX8_times 37 = .ok (.invokestatic 68, 3) := by decide +kernel
theorem dX8_times_40 : decode cX8_times 40 = .ok (.ifCond .ne 10, 3) := by decide +kernel
theorem dX8_times_43 : decode cX8_times 43 = .ok (.aload_n 0, 1) := by decide +kernel
theorem dX8_times_44 : decode cX8_times 44 = .ok (.bipush (-2), 2) := by decide +kernel
theorem dX8_times_46 : decode cX8_times 46 = .ok (.invokevirtual 72, 3) := by decide +kernel
theorem dX8_times_49 : decode cX8_times 49 = .ok (.ireturn, 1) := by decide +kernel
theorem dX8_times_50 : decode cX8_times 50 = .ok (.aload_n 0, 1) := by decide +kernel
theorem dX8_times_51 : decode cX8_times 51 = .ok (.getfield 36, 3) := by decide +kernel
theorem dX8_times_54 : decode cX8_times 54 = .ok (.getfield 84, 3) := by decide +kernel
theorem dX8_times_57 : decode cX8_times 57 = .ok (.getfield 122, 3) := by decide +kernel
theorem dX8_times_60 : decode cX8_times 60 = .ok (.iload_n 1, 1) := by decide +kernel
theorem dX8_times_61 : decode cX8_times 61 = .ok (.iload_n 2, 1) := by decide +kernel
theorem dX8_times_62 : decode cX8_times 62 = .ok (.iload_n 3, 1) := by decide +kernel
theorem dX8_times_63 : decode cX8_times 63 = .ok (.invokestatic 125, 3) := by decide +kernel
theorem dX8_times_66 : decode cX8_times 66 = .ok (.iaload, 1) := by decide +kernel
theorem dX8_times_67 : decode cX8_times 67 = .ok (.ireturn, 1) := by decide +kernel
theorem dX8_degree_0 : decode cX8_degree 0 = .ok (.aload_n 0, 1) := by decide +kernel
theorem dX8_degree_1 : decode cX8_degree 1 = .ok (.invokevirtual 75, 3) := by decide +kernel
theorem dX8_degree_4 : decode cX8_degree 4 = .ok (.iload_n 1, 1) := by decide +kernel
theorem dX8_degree_5 : decode cX8_degree 5 = .ok (.aload_n 0, 1) := by decide +kernel
theorem dX8_degree_6 : decode cX8_degree 6 = .ok (.getfield 36, 3) := by decide +kernel
theorem dX8_degree_9 : decode cX8_degree 9 = .ok (.getfield 129, 3) := by decide +kernel
theorem dX8_degree_12 : decode cX8_degree 12 = .ok (.invokestatic 68, 3) := by decide +kernel
theorem dX8_degree_15 : decode cX8_degree 15 = .ok (.ifCond .ne 10, 3) := by decide +kernel
theorem dX8_degree_18 : decode cX8_degree 18 = .ok (.aload_n 0, 1) := by decide +kernel
theorem dX8_degree_19 : decode cX8_degree 19 = .ok (.bipush (-2), 2) := by decide +kernel
theorem dX8_degree_21 : decode cX8_degree 21 = .ok (.invokevirtual 72, 3) := by decide +kernel
theorem dX8_degree_24 : decode cX8_degree 24 = .ok (.ireturn, 1) := by decide +kernel
theorem dX8_degree_25 : decode cX8_degree 25 = .ok (.aload_n 0, 1) := by decide +kernel
theorem dX8_degree_26 : decode cX8_degree 26 = .ok (.getfield 36, 3) := by decide +kernel
theorem dX8_degree_29 : decode cX8_degree 29 = .ok (.getfield 130, 3) := by decide +kernel
theorem dX8_degree_32 : decode cX8_degree 32 = .ok (.iload_n 1, 1) := by decide +kernel
theorem dX8_degree_33 : decode cX8_degree 33 = .ok (.iaload, 1) := by decide +kernel
theorem dX8_degree_34 : decode cX8_degree 34 = .ok (.ireturn, 1) := by decide +kernel
theorem dX8_value_0 : decode cX8_value 0 = .ok (.aload_n 0, 1) := by decide +kernel
theorem dX8_value_1 : decode cX8_value 1 = .ok (.invokevirtual 75, 3) := by decide +kernel
theorem dX8_value_4 : decode cX8_value 4 = .ok (.iload_n 1, 1) := by decide +kernel
theorem dX8_value_5 : decode cX8_value 5 = .ok (.aload_n 0, 1) := by decide +kernel
theorem dX8_value_6 : decode cX8_value 6 = .ok (.getfield 36, 3) := by decide +kernel
theorem dX8_value_9 : decode cX8_value 9 = .ok (.getfield 129, 3) := by decide +kernel
theorem dX8_value_12 : decode cX8_value 12 = .ok (.invokestatic 68, 3) := by decide +kernel
theorem dX8_value_15 : decode cX8_value 15 = .ok (.ifCond .eq 17, 3) := by decide +kernel
theorem dX8_value_18 : decode cX8_value 18 = .ok (.iload_n 2, 1) := by decide +kernel
theorem dX8_value_19 : decode cX8_value 19 = .ok (.aload_n 0, 1) := by decide +kernel
theorem dX8_value_20 : decode cX8_value 20 = .ok (.getfield 36, 3) := by decide +kernel
theorem dX8_value_23 : decode cX8_value 23 = .ok (.getfield 129, 3) := by decide +kernel
theorem dX8_value_26 : decode cX8_value 26 = .ok (.invokestatic 68, 3) := by decide +kernel
theorem dX8_value_29 : decode cX8_value 29 = .ok (.ifCond .ne 10, 3) := by decide +kernel
theorem dX8_value_32 : decode cX8_value 32 = .ok (.aload_n 0, 1) := by decide +kernel
theorem dX8_value_33 : decode cX8_value 33 = .ok (.bipush (-2), 2) := by decide +kernel
theorem dX8_value_35 : decode cX8_value 35 = .ok (.invokevirtual 72, 3) := by decide +kernel
theorem dX8_value_38 : decode cX8_value 38 = .ok (.ireturn, 1) := by decide +kernel
theorem dX8_value_39 : decode cX8_value 39 = .ok (.aload_n 0, 1) := by decide +kernel
theorem dX8_value_40 : decode cX8_value 40 = .ok (.getfield 36, 3) := by decide +kernel
theorem dX8_value_43 : decode cX8_value 43 = .ok (.getfield 133, 3) := by decide +kernel
theorem dX8_value_46 : decode cX8_value 46 = .ok (.iload_n 1, 1) := by decide +kernel
theorem dX8_value_47 : decode cX8_value 47 = .ok (.aaload, 1) := by decide +kernel
theorem dX8_value_48 : decode cX8_value 48 = .ok (.iload_n 2, 1) := by decide +kernel
theorem dX8_value_49 : decode cX8_value 49 = .ok (.iaload, 1) := by decide +kernel
theorem dX8_value_50 : decode cX8_value 50 = .ok (.ireturn, 1) := by decide +kernel
theorem dX8_spread_0 : decode cX8_spread 0 = .ok (.aload_n 0, 1) := by decide +kernel
theorem dX8_spread_1 : decode cX8_spread 1 = .ok (.invokevirtual 75, 3) := by decide +kernel
theorem dX8_spread_4 : decode cX8_spread 4 = .ok (.iload_n 1, 1) := by decide +kernel
theorem dX8_spread_5 : decode cX8_spread 5 = .ok (.aload_n 0, 1) := by decide +kernel
theorem dX8_spread_6 : decode cX8_spread 6 = .ok (.getfield 36, 3) := by decide +kernel
theorem dX8_spread_9 : decode cX8_spread 9 = .ok (.getfield 129, 3) := by decide +kernel
theorem dX8_spread_12 : decode cX8_spread 12 = .ok (.invokestatic 68, 3) := by decide +kernel
theorem dX8_spread_15 : decode cX8_spread 15 = .ok (.ifCond .eq 17, 3) := by decide +kernel
theorem dX8_spread_18 : decode cX8_spread 18 = .ok (.iload_n 2, 1) := by decide +kernel
theorem dX8_spread_19 : decode cX8_spread 19 = .ok (.aload_n 0, 1) := by decide +kernel
theorem dX8_spread_20 : decode cX8_spread 20 = .ok (.getfield 36, 3) := by decide +kernel
theorem dX8_spread_23 : decode cX8_spread 23 = .ok (.getfield 129, 3) := by decide +kernel
theorem dX8_spread_26 : decode cX8_spread 26 = .ok (.invokestatic 68, 3) := by decide +kernel
theorem dX8_spread_29 : decode cX8_spread 29 = .ok (.ifCond .ne 10, 3) := by decide +kernel
theorem dX8_spread_32 : decode cX8_spread 32 = .ok (.aload_n 0, 1) := by decide +kernel
theorem dX8_spread_33 : decode cX8_spread 33 = .ok (.bipush (-2), 2) := by decide +kernel
theorem dX8_spread_35 : decode cX8_spread 35 = .ok (.invokevirtual 72, 3) := by decide +kernel
theorem dX8_spread_38 : decode cX8_spread 38 = .ok (.ireturn, 1) := by decide +kernel
theorem dX8_spread_39 : decode cX8_spread 39 = .ok (.aload_n 0, 1) := by decide +kernel
theorem dX8_spread_40 : decode cX8_spread 40 = .ok (.getfield 36, 3) := by decide +kernel
theorem dX8_spread_43 : decode cX8_spread 43 = .ok (.getfield 137, 3) := by decide +kernel
theorem dX8_spread_46 : decode cX8_spread 46 = .ok (.iload_n 1, 1) := by decide +kernel
theorem dX8_spread_47 : decode cX8_spread 47 = .ok (.aaload, 1) := by decide +kernel
theorem dX8_spread_48 : decode cX8_spread 48 = .ok (.iload_n 2, 1) := by decide +kernel
theorem dX8_spread_49 : decode cX8_spread 49 = .ok (.iaload, 1) := by decide +kernel
theorem dX8_spread_50 : decode cX8_spread 50 = .ok (.ireturn, 1) := by decide +kernel
theorem dX8_part_0 : decode cX8_part 0 = .ok (.aload_n 0, 1) := by decide +kernel
theorem dX8_part_1 : decode cX8_part 1 = .ok (.invokevirtual 75, 3) := by decide +kernel
theorem dX8_part_4 : decode cX8_part 4 = .ok (.iload_n 1, 1) := by decide +kernel
theorem dX8_part_5 : decode cX8_part 5 = .ok (.aload_n 0, 1) := by decide +kernel
theorem dX8_part_6 : decode cX8_part 6 = .ok (.getfield 36, 3) := by decide +kernel
theorem dX8_part_9 : decode cX8_part 9 = .ok (.getfield 129, 3) := by decide +kernel
theorem dX8_part_12 : decode cX8_part 12 = .ok (.invokestatic 68, 3) := by decide +kernel
theorem dX8_part_15 : decode cX8_part 15 = .ok (.ifCond .eq 17, 3) := by decide +kernel
theorem dX8_part_18 : decode cX8_part 18 = .ok (.iload_n 2, 1) := by decide +kernel
theorem dX8_part_19 : decode cX8_part 19 = .ok (.aload_n 0, 1) := by decide +kernel
theorem dX8_part_20 : decode cX8_part 20 = .ok (.getfield 36, 3) := by decide +kernel
theorem dX8_part_23 : decode cX8_part 23 = .ok (.getfield 129, 3) := by decide +kernel
theorem dX8_part_26 : decode cX8_part 26 = .ok (.invokestatic 68, 3) := by decide +kernel
theorem dX8_part_29 : decode cX8_part 29 = .ok (.ifCond .ne 10, 3) := by decide +kernel
theorem dX8_part_32 : decode cX8_part 32 = .ok (.aload_n 0, 1) := by decide +kernel
theorem dX8_part_33 : decode cX8_part 33 = .ok (.bipush (-2), 2) := by decide +kernel
theorem dX8_part_35 : decode cX8_part 35 = .ok (.invokevirtual 72, 3) := by decide +kernel
theorem dX8_part_38 : decode cX8_part 38 = .ok (.ireturn, 1) := by decide +kernel
theorem dX8_part_39 : decode cX8_part 39 = .ok (.iload_n 3, 1) := by decide +kernel
theorem dX8_part_40 : decode cX8_part 40 = .ok (.aload_n 0, 1) := by decide +kernel
theorem dX8_part_41 : decode cX8_part 41 = .ok (.getfield 36, 3) := by decide +kernel
theorem dX8_part_44 : decode cX8_part 44 = .ok (.getfield 84, 3) := by decide +kernel
theorem dX8_part_47 : decode cX8_part 47 = .ok (.getfield 109, 3) := by decide +kernel
theorem dX8_part_50 : decode cX8_part 50 = .ok (.iload_n 2, 1) := by decide +kernel
theorem dX8_part_51 : decode cX8_part 51 = .ok (.iaload, 1) := by decide +kernel
theorem dX8_part_52 : decode cX8_part 52 = .ok (.invokestatic 68, 3) := by decide +kernel
theorem dX8_part_55 : decode cX8_part 55 = .ok (.ifCond .ne 10, 3) := by decide +kernel
theorem dX8_part_58 : decode cX8_part 58 = .ok (.aload_n 0, 1) := by decide +kernel
theorem dX8_part_59 : decode cX8_part 59 = .ok (.bipush (-2), 2) := by decide +kernel
theorem dX8_part_61 : decode cX8_part 61 = .ok (.invokevirtual 72, 3) := by decide +kernel
theorem dX8_part_64 : decode cX8_part 64 = .ok (.ireturn, 1) := by decide +kernel
theorem dX8_part_65 : decode cX8_part 65 = .ok (.aload_n 0, 1) := by decide +kernel
theorem dX8_part_66 : decode cX8_part 66 = .ok (.getfield 36, 3) := by decide +kernel
theorem dX8_part_69 : decode cX8_part 69 = .ok (.iload_n 1, 1) := by decide +kernel
theorem dX8_part_70 : decode cX8_part 70 = .ok (.iload_n 2, 1) := by decide +kernel
theorem dX8_part_71 : decode cX8_part 71 = .ok (.iload_n 3, 1) := by decide +kernel
theorem dX8_part_72 : decode cX8_part 72 = .ok (.invokevirtual 140, 3) := by decide +kernel
theorem dX8_part_75 : decode cX8_part 75 = .ok (.ireturn, 1) := by decide +kernel
theorem dX8_mirror_0 : decode cX8_mirror 0 = .ok (.aload_n 0, 1) := by decide +kernel
theorem dX8_mirror_1 : decode cX8_mirror 1 = .ok (.invokevirtual 75, 3) := by decide +kernel
theorem dX8_mirror_4 : decode cX8_mirror 4 = .ok (.iload_n 1, 1) := by decide +kernel
theorem dX8_mirror_5 : decode cX8_mirror 5 = .ok (.aload_n 0, 1) := by decide +kernel
theorem dX8_mirror_6 : decode cX8_mirror 6 = .ok (.getfield 36, 3) := by decide +kernel
theorem dX8_mirror_9 : decode cX8_mirror 9 = .ok (.getfield 129, 3) := by decide +kernel
theorem dX8_mirror_12 : decode cX8_mirror 12 = .ok (.invokestatic 68, 3) := by decide +kernel
theorem dX8_mirror_15 : decode cX8_mirror 15 = .ok (.ifCond .ne 10, 3) := by decide +kernel
theorem dX8_mirror_18 : decode cX8_mirror 18 = .ok (.aload_n 0, 1) := by decide +kernel
theorem dX8_mirror_19 : decode cX8_mirror 19 = .ok (.bipush (-2), 2) := by decide +kernel
theorem dX8_mirror_21 : decode cX8_mirror 21 = .ok (.invokevirtual 72, 3) := by decide +kernel
theorem dX8_mirror_24 : decode cX8_mirror 24 = .ok (.ireturn, 1) := by decide +kernel
theorem dX8_mirror_25 : decode cX8_mirror 25 = .ok (.aload_n 0, 1) := by decide +kernel
theorem dX8_mirror_26 : decode cX8_mirror 26 = .ok (.getfield 36, 3) := by decide +kernel
theorem dX8_mirror_29 : decode cX8_mirror 29 = .ok (.iload_n 1, 1) := by decide +kernel
theorem dX8_mirror_30 : decode cX8_mirror 30 = .ok (.invokevirtual 143, 3) := by decide +kernel
theorem dX8_mirror_33 : decode cX8_mirror 33 = .ok (.ireturn, 1) := by decide +kernel
theorem dX8_blind_0 : decode cX8_blind 0 = .ok (.aload_n 0, 1) := by decide +kernel
theorem dX8_blind_1 : decode cX8_blind 1 = .ok (.invokevirtual 75, 3) := by decide +kernel
theorem dX8_blind_4 : decode cX8_blind 4 = .ok (.iload_n 1, 1) := by decide +kernel
theorem dX8_blind_5 : decode cX8_blind 5 = .ok (.aload_n 0, 1) := by decide +kernel
theorem dX8_blind_6 : decode cX8_blind 6 = .ok (.getfield 36, 3) := by decide +kernel
theorem dX8_blind_9 : decode cX8_blind 9 = .ok (.getfield 129, 3) := by decide +kernel
theorem dX8_blind_12 : decode cX8_blind 12 = .ok (.invokestatic 68, 3) := by decide +kernel
theorem dX8_blind_15 : decode cX8_blind 15 = .ok (.ifCond .ne 10, 3) := by decide +kernel
theorem dX8_blind_18 : decode cX8_blind 18 = .ok (.aload_n 0, 1) := by decide +kernel
theorem dX8_blind_19 : decode cX8_blind 19 = .ok (.bipush (-2), 2) := by decide +kernel
theorem dX8_blind_21 : decode cX8_blind 21 = .ok (.invokevirtual 72, 3) := by decide +kernel
theorem dX8_blind_24 : decode cX8_blind 24 = .ok (.ireturn, 1) := by decide +kernel
theorem dX8_blind_25 : decode cX8_blind 25 = .ok (.aload_n 0, 1) := by decide +kernel
theorem dX8_blind_26 : decode cX8_blind 26 = .ok (.getfield 36, 3) := by decide +kernel
theorem dX8_blind_29 : decode cX8_blind 29 = .ok (.iload_n 1, 1) := by decide +kernel
theorem dX8_blind_30 : decode cX8_blind 30 = .ok (.invokevirtual 146, 3) := by decide +kernel
theorem dX8_blind_33 : decode cX8_blind 33 = .ok (.ireturn, 1) := by decide +kernel
theorem dX8_within_0 : decode cX8_within 0 = .ok (.aload_n 0, 1) := by decide +kernel
theorem dX8_within_1 : decode cX8_within 1 = .ok (.invokevirtual 75, 3) := by decide +kernel
theorem dX8_within_4 : decode cX8_within 4 = .ok (.iload_n 1, 1) := by decide +kernel
theorem dX8_within_5 : decode cX8_within 5 = .ok (.aload_n 0, 1) := by decide +kernel
theorem dX8_within_6 : decode cX8_within 6 = .ok (.getfield 36, 3) := by decide +kernel
theorem dX8_within_9 : decode cX8_within 9 = .ok (.getfield 129, 3) := by decide +kernel
theorem dX8_within_12 : decode cX8_within 12 = .ok (.invokestatic 68, 3) := by decide +kernel
theorem dX8_within_15 : decode cX8_within 15 = .ok (.ifCond .eq 31, 3) := by decide +kernel
theorem dX8_within_18 : decode cX8_within 18 = .ok (.iload_n 2, 1) := by decide +kernel
theorem dX8_within_19 : decode cX8_within 19 = .ok (.aload_n 0, 1) := by decide +kernel
theorem dX8_within_20 : decode cX8_within 20 = .ok (.getfield 36, 3) := by decide +kernel
theorem dX8_within_23 : decode cX8_within 23 = .ok (.getfield 129, 3) := by decide +kernel
theorem dX8_within_26 : decode cX8_within 26 = .ok (.invokestatic 68, 3) := by decide +kernel
theorem dX8_within_29 : decode cX8_within 29 = .ok (.ifCond .eq 17, 3) := by decide +kernel
theorem dX8_within_32 : decode cX8_within 32 = .ok (.iload_n 3, 1) := by decide +kernel
theorem dX8_within_33 : decode cX8_within 33 = .ok (.aload_n 0, 1) := by decide +kernel
theorem dX8_within_34 : decode cX8_within 34 = .ok (.getfield 36, 3) := by decide +kernel
theorem dX8_within_37 : decode cX8_within 37 = .ok (.getfield 129, 3) := by decide +kernel
theorem dX8_within_40 : decode cX8_within 40 = .ok (.invokestatic 68, 3) := by decide +kernel
theorem dX8_within_43 : decode cX8_within 43 = .ok (.ifCond .ne 10, 3) := by decide +kernel
theorem dX8_within_46 : decode cX8_within 46 = .ok (.aload_n 0, 1) := by decide +kernel
theorem dX8_within_47 : decode cX8_within 47 = .ok (.bipush (-2), 2) := by decide +kernel
theorem dX8_within_49 : decode cX8_within 49 = .ok (.invokevirtual 72, 3) := by decide +kernel
theorem dX8_within_52 : decode cX8_within 52 = .ok (.ireturn, 1) := by decide +kernel
theorem dX8_within_53 : decode cX8_within 53 = .ok (.aload_n 0, 1) := by decide +kernel
theorem dX8_within_54 : decode cX8_within 54 = .ok (.getfield 36, 3) := by decide +kernel
theorem dX8_within_57 : decode cX8_within 57 = .ok (.iload_n 1, 1) := by decide +kernel
theorem dX8_within_58 : decode cX8_within 58 = .ok (.iload_n 2, 1) := by decide +kernel
theorem dX8_within_59 : decode cX8_within 59 = .ok (.invokevirtual 149, 3) := by decide +kernel
theorem dX8_within_62 : decode cX8_within 62 = .ok (.aload_n 0, 1) := by decide +kernel
theorem dX8_within_63 : decode cX8_within 63 = .ok (.getfield 36, 3) := by decide +kernel
theorem dX8_within_66 : decode cX8_within 66 = .ok (.aload_n 0, 1) := by decide +kernel
theorem dX8_within_67 : decode cX8_within 67 = .ok (.getfield 36, 3) := by decide +kernel
theorem dX8_within_70 : decode cX8_within 70 = .ok (.getfield 153, 3) := by decide +kernel
theorem dX8_within_73 : decode cX8_within 73 = .ok (.aload_n 0, 1) := by decide +kernel
theorem dX8_within_74 : decode cX8_within 74 = .ok (.getfield 36, 3) := by decide +kernel
theorem dX8_within_77 : decode cX8_within 77 = .ok (.getfield 133, 3) := by decide +kernel
theorem dX8_within_80 : decode cX8_within 80 = .ok (.iload_n 3, 1) := by decide +kernel
theorem dX8_within_81 : decode cX8_within 81 = .ok (.aaload, 1) := by decide +kernel
theorem dX8_within_82 : decode cX8_within 82 = .ok (.invokevirtual 155, 3) := by decide +kernel
theorem dX8_within_85 : decode cX8_within 85 = .ok (.ireturn, 1) := by decide +kernel
theorem dX8_natural_0 : decode cX8_natural 0 = .ok (.aload_n 0, 1) := by decide +kernel
theorem dX8_natural_1 : decode cX8_natural 1 = .ok (.invokevirtual 75, 3) := by decide +kernel
theorem dX8_natural_4 : decode cX8_natural 4 = .ok (.iload_n 1, 1) := by decide +kernel
theorem dX8_natural_5 : decode cX8_natural 5 = .ok (.aload_n 0, 1) := by decide +kernel
theorem dX8_natural_6 : decode cX8_natural 6 = .ok (.getfield 36, 3) := by decide +kernel
theorem dX8_natural_9 : decode cX8_natural 9 = .ok (.getfield 129, 3) := by decide +kernel
theorem dX8_natural_12 : decode cX8_natural 12 = .ok (.invokestatic 68, 3) := by decide +kernel
theorem dX8_natural_15 : decode cX8_natural 15 = .ok (.ifCond .ne 10, 3) := by decide +kernel
theorem dX8_natural_18 : decode cX8_natural 18 = .ok (.aload_n 0, 1) := by decide +kernel
theorem dX8_natural_19 : decode cX8_natural 19 = .ok (.bipush (-2), 2) := by decide +kernel
theorem dX8_natural_21 : decode cX8_natural 21 = .ok (.invokevirtual 72, 3) := by decide +kernel
theorem dX8_natural_24 : decode cX8_natural 24 = .ok (.ireturn, 1) := by decide +kernel
theorem dX8_natural_25 : decode cX8_natural 25 = .ok (.aload_n 0, 1) := by decide +kernel
theorem dX8_natural_26 : decode cX8_natural 26 = .ok (.getfield 36, 3) := by decide +kernel
theorem dX8_natural_29 : decode cX8_natural 29 = .ok (.aload_n 0, 1) := by decide +kernel
theorem dX8_natural_30 : decode cX8_natural 30 = .ok (.getfield 36, 3) := by decide +kernel
theorem dX8_natural_33 : decode cX8_natural 33 = .ok (.getfield 84, 3) := by decide +kernel
theorem dX8_natural_36 : decode cX8_natural 36 = .ok (.getfield 159, 3) := by decide +kernel
theorem dX8_natural_39 : decode cX8_natural 39 = .ok (.aload_n 0, 1) := by decide +kernel
theorem dX8_natural_40 : decode cX8_natural 40 = .ok (.getfield 36, 3) := by decide +kernel
theorem dX8_natural_43 : decode cX8_natural 43 = .ok (.getfield 133, 3) := by decide +kernel
theorem dX8_natural_46 : decode cX8_natural 46 = .ok (.iload_n 1, 1) := by decide +kernel
theorem dX8_natural_47 : decode cX8_natural 47 = .ok (.aaload, 1) := by decide +kernel
theorem dX8_natural_48 : decode cX8_natural 48 = .ok (.invokevirtual 155, 3) := by decide +kernel
theorem dX8_natural_51 : decode cX8_natural 51 = .ok (.ireturn, 1) := by decide +kernel
theorem dX8_turned_0 : decode cX8_turned 0 = .ok (.aload_n 0, 1) := by decide +kernel
theorem dX8_turned_1 : decode cX8_turned 1 = .ok (.invokevirtual 75, 3) := by decide +kernel
theorem dX8_turned_4 : decode cX8_turned 4 = .ok (.iload_n 1, 1) := by decide +kernel
theorem dX8_turned_5 : decode cX8_turned 5 = .ok (.aload_n 0, 1) := by decide +kernel
theorem dX8_turned_6 : decode cX8_turned 6 = .ok (.getfield 36, 3) := by decide +kernel
theorem dX8_turned_9 : decode cX8_turned 9 = .ok (.getfield 129, 3) := by decide +kernel
theorem dX8_turned_12 : decode cX8_turned 12 = .ok (.invokestatic 68, 3) := by decide +kernel
theorem dX8_turned_15 : decode cX8_turned 15 = .ok (.ifCond .eq 17, 3) := by decide +kernel
theorem dX8_turned_18 : decode cX8_turned 18 = .ok (.iload_n 2, 1) := by decide +kernel
theorem dX8_turned_19 : decode cX8_turned 19 = .ok (.aload_n 0, 1) := by decide +kernel
theorem dX8_turned_20 : decode cX8_turned 20 = .ok (.getfield 36, 3) := by decide +kernel
theorem dX8_turned_23 : decode cX8_turned 23 = .ok (.getfield 129, 3) := by decide +kernel
theorem dX8_turned_26 : decode cX8_turned 26 = .ok (.invokestatic 68, 3) := by decide +kernel
theorem dX8_turned_29 : decode cX8_turned 29 = .ok (.ifCond .ne 10, 3) := by decide +kernel
theorem dX8_turned_32 : decode cX8_turned 32 = .ok (.aload_n 0, 1) := by decide +kernel
theorem dX8_turned_33 : decode cX8_turned 33 = .ok (.bipush (-2), 2) := by decide +kernel
theorem dX8_turned_35 : decode cX8_turned 35 = .ok (.invokevirtual 72, 3) := by decide +kernel
theorem dX8_turned_38 : decode cX8_turned 38 = .ok (.ireturn, 1) := by decide +kernel
theorem dX8_turned_39 : decode cX8_turned 39 = .ok (.aload_n 0, 1) := by decide +kernel
theorem dX8_turned_40 : decode cX8_turned 40 = .ok (.getfield 36, 3) := by decide +kernel
theorem dX8_turned_43 : decode cX8_turned 43 = .ok (.getfield 130, 3) := by decide +kernel
theorem dX8_turned_46 : decode cX8_turned 46 = .ok (.iload_n 2, 1) := by decide +kernel
theorem dX8_turned_47 : decode cX8_turned 47 = .ok (.iaload, 1) := by decide +kernel
theorem dX8_turned_48 : decode cX8_turned 48 = .ok (.iconst 1, 1) := by decide +kernel
theorem dX8_turned_49 : decode cX8_turned 49 = .ok (.if_icmp .eq 10, 3) := by decide +kernel
theorem dX8_turned_52 : decode cX8_turned 52 = .ok (.aload_n 0, 1) := by decide +kernel
theorem dX8_turned_53 : decode cX8_turned 53 = .ok (.bipush (-3), 2) := by decide +kernel
theorem dX8_turned_55 : decode cX8_turned 55 = .ok (.invokevirtual 72, 3) := by decide +kernel
theorem dX8_turned_58 : decode cX8_turned 58 = .ok (.ireturn, 1) := by decide +kernel
theorem dX8_turned_59 : decode cX8_turned 59 = .ok (.aload_n 0, 1) := by decide +kernel
theorem dX8_turned_60 : decode cX8_turned 60 = .ok (.getfield 36, 3) := by decide +kernel
theorem dX8_turned_63 : decode cX8_turned 63 = .ok (.iload_n 1, 1) := by decide +kernel
theorem dX8_turned_64 : decode cX8_turned 64 = .ok (.iload_n 2, 1) := by decide +kernel
theorem dX8_turned_65 : decode cX8_turned 65 = .ok (.invokevirtual 149, 3) := by decide +kernel
theorem dX8_turned_68 : decode cX8_turned 68 = .ok (.aload_n 0, 1) := by decide +kernel
theorem dX8_turned_69 : decode cX8_turned 69 = .ok (.getfield 36, 3) := by decide +kernel
theorem dX8_turned_72 : decode cX8_turned 72 = .ok (.aload_n 0, 1) := by decide +kernel
theorem dX8_turned_73 : decode cX8_turned 73 = .ok (.getfield 36, 3) := by decide +kernel
theorem dX8_turned_76 : decode cX8_turned 76 = .ok (.getfield 153, 3) := by decide +kernel
theorem dX8_turned_79 : decode cX8_turned 79 = .ok (.invokevirtual 162, 3) := by decide +kernel
theorem dX8_turned_82 : decode cX8_turned 82 = .ok (.ireturn, 1) := by decide +kernel
theorem dX8_type_0 : decode cX8_type 0 = .ok (.aload_n 0, 1) := by decide +kernel
theorem dX8_type_1 : decode cX8_type 1 = .ok (.getfield 29, 3) := by decide +kernel
theorem dX8_type_4 : decode cX8_type 4 = .ok (.iload_n 1, 1) := by decide +kernel
theorem dX8_type_5 : decode cX8_type 5 = .ok (.invokevirtual 166, 3) := by decide +kernel
theorem dX8_type_8 : decode cX8_type 8 = .ok (.istore_n 2, 1) := by decide +kernel
theorem dX8_type_9 : decode cX8_type 9 = .ok (.iload_n 2, 1) := by decide +kernel
theorem dX8_type_10 : decode cX8_type 10 = .ok (.ifCond .ge 11, 3) := by decide +kernel
theorem dX8_type_13 : decode cX8_type 13 = .ok (.aload_n 0, 1) := by decide +kernel
theorem dX8_type_14 : decode cX8_type 14 = .ok (.iload_n 2, 1) := by decide +kernel
theorem dX8_type_15 : decode cX8_type 15 = .ok (.invokevirtual 72, 3) := by decide +kernel
theorem dX8_type_18 : decode cX8_type 18 = .ok (.goto 4, 3) := by decide +kernel
theorem dX8_type_21 : decode cX8_type 21 = .ok (.iload_n 2, 1) := by decide +kernel
theorem dX8_type_22 : decode cX8_type 22 = .ok (.ireturn, 1) := by decide +kernel
theorem dX8_clear_0 : decode cX8_clear 0 = .ok (.aload_n 0, 1) := by decide +kernel
theorem dX8_clear_1 : decode cX8_clear 1 = .ok (.getfield 29, 3) := by decide +kernel
theorem dX8_clear_4 : decode cX8_clear 4 = .ok (.invokevirtual 169, 3) := by decide +kernel
theorem dX8_clear_7 : decode cX8_clear 7 = .ok (.ireturn, 1) := by decide +kernel
theorem dX8_reads_0 : decode cX8_reads 0 = .ok (.aload_n 0, 1) := by decide +kernel
theorem dX8_reads_1 : decode cX8_reads 1 = .ok (.getfield 16, 3) := by decide +kernel
theorem dX8_reads_4 : decode cX8_reads 4 = .ok (.aload_n 0, 1) := by decide +kernel
theorem dX8_reads_5 : decode cX8_reads 5 = .ok (.getfield 10, 3) := by decide +kernel
theorem dX8_reads_8 : decode cX8_reads 8 = .ok (.invokevirtual 51, 3) := by decide +kernel
theorem dX8_reads_11 : decode cX8_reads 11 = .ok (.aload_n 0, 1) := by decide +kernel
theorem dX8_reads_12 : decode cX8_reads 12 = .ok (.getfield 29, 3) := by decide +kernel
theorem dX8_reads_15 : decode cX8_reads 15 = .ok (.aload_n 0, 1) := by decide +kernel
theorem dX8_reads_16 : decode cX8_reads 16 = .ok (.getfield 16, 3) := by decide +kernel
theorem dX8_reads_19 : decode cX8_reads 19 = .ok (.invokevirtual 173, 3) := by decide +kernel
theorem dX8_reads_22 : decode cX8_reads 22 = .ok (.istore_n 1, 1) := by decide +kernel
theorem dX8_reads_23 : decode cX8_reads 23 = .ok (.iload_n 1, 1) := by decide +kernel
theorem dX8_reads_24 : decode cX8_reads 24 = .ok (.ifCond .ge 7, 3) := by decide +kernel
theorem dX8_reads_27 : decode cX8_reads 27 = .ok (.iload_n 1, 1) := by decide +kernel
theorem dX8_reads_28 : decode cX8_reads 28 = .ok (.goto 8, 3) := by decide +kernel
theorem dX8_reads_31 : decode cX8_reads 31 = .ok (.aload_n 0, 1) := by decide +kernel
theorem dX8_reads_32 : decode cX8_reads 32 = .ok (.iload_n 1, 1) := by decide +kernel
theorem dX8_reads_33 : decode cX8_reads 33 = .ok (.invokevirtual 59, 3) := by decide +kernel
theorem dX8_reads_36 : decode cX8_reads 36 = .ok (.ireturn, 1) := by decide +kernel
theorem dX8_back_0 : decode cX8_back 0 = .ok (.aload_n 0, 1) := by decide +kernel
theorem dX8_back_1 : decode cX8_back 1 = .ok (.getfield 22, 3) := by decide +kernel
theorem dX8_back_4 : decode cX8_back 4 = .ok (.getfield 177, 3) := by decide +kernel
theorem dX8_back_7 : decode cX8_back 7 = .ok (.ifCond .ne 10, 3) := by decide +kernel
theorem dX8_back_10 : decode cX8_back 10 = .ok (.aload_n 0, 1) := by decide +kernel
theorem dX8_back_11 : decode cX8_back 11 = .ok (.bipush (-3), 2) := by decide +kernel
theorem dX8_back_13 : decode cX8_back 13 = .ok (.invokevirtual 72, 3) := by decide +kernel
theorem dX8_back_16 : decode cX8_back 16 = .ok (.ireturn, 1) := by decide +kernel
theorem dX8_back_17 : decode cX8_back 17 = .ok (.aload_n 0, 1) := by decide +kernel
theorem dX8_back_18 : decode cX8_back 18 = .ok (.getfield 22, 3) := by decide +kernel
theorem dX8_back_21 : decode cX8_back 21 = .ok (.aload_n 0, 1) := by decide +kernel
theorem dX8_back_22 : decode cX8_back 22 = .ok (.getfield 10, 3) := by decide +kernel
theorem dX8_back_25 : decode cX8_back 25 = .ok (.invokevirtual 178, 3) := by decide +kernel
theorem dX8_back_28 : decode cX8_back 28 = .ok (.aload_n 0, 1) := by decide +kernel
theorem dX8_back_29 : decode cX8_back 29 = .ok (.invokevirtual 181, 3) := by decide +kernel
theorem dX8_back_32 : decode cX8_back 32 = .ok (.aload_n 0, 1) := by decide +kernel
theorem dX8_back_33 : decode cX8_back 33 = .ok (.getfield 22, 3) := by decide +kernel
theorem dX8_back_36 : decode cX8_back 36 = .ok (.getfield 177, 3) := by decide +kernel
theorem dX8_back_39 : decode cX8_back 39 = .ok (.ireturn, 1) := by decide +kernel
theorem dX8_told_0 : decode cX8_told 0 = .ok (.iload_n 1, 1) := by decide +kernel
theorem dX8_told_1 : decode cX8_told 1 = .ok (.tableswitch 82 0 6 #[43, 43, 43, 50, 58, 66, 74], 43) := by decide +kernel
theorem dX8_told_44 : decode cX8_told 44 = .ok (.aload_n 0, 1) := by decide +kernel
theorem dX8_told_45 : decode cX8_told 45 = .ok (.getfield 40, 3) := by decide +kernel
theorem dX8_told_48 : decode cX8_told 48 = .ok (.iload_n 1, 1) := by decide +kernel
theorem dX8_told_49 : decode cX8_told 49 = .ok (.iaload, 1) := by decide +kernel
theorem dX8_told_50 : decode cX8_told 50 = .ok (.ireturn, 1) := by decide +kernel
theorem dX8_told_51 : decode cX8_told 51 = .ok (.aload_n 0, 1) := by decide +kernel
theorem dX8_told_52 : decode cX8_told 52 = .ok (.getfield 29, 3) := by decide +kernel
theorem dX8_told_55 : decode cX8_told 55 = .ok (.getfield 184, 3) := by decide +kernel
theorem dX8_told_58 : decode cX8_told 58 = .ok (.ireturn, 1) := by decide +kernel
theorem dX8_told_59 : decode cX8_told 59 = .ok (.aload_n 0, 1) := by decide +kernel
theorem dX8_told_60 : decode cX8_told 60 = .ok (.getfield 10, 3) := by decide +kernel
theorem dX8_told_63 : decode cX8_told 63 = .ok (.getfield 187, 3) := by decide +kernel
theorem dX8_told_66 : decode cX8_told 66 = .ok (.ireturn, 1) := by decide +kernel
theorem dX8_told_67 : decode cX8_told 67 = .ok (.aload_n 0, 1) := by decide +kernel
theorem dX8_told_68 : decode cX8_told 68 = .ok (.getfield 10, 3) := by decide +kernel
theorem dX8_told_71 : decode cX8_told 71 = .ok (.getfield 190, 3) := by decide +kernel
theorem dX8_told_74 : decode cX8_told 74 = .ok (.ireturn, 1) := by decide +kernel
theorem dX8_told_75 : decode cX8_told 75 = .ok (.aload_n 0, 1) := by decide +kernel
theorem dX8_told_76 : decode cX8_told 76 = .ok (.getfield 22, 3) := by decide +kernel
theorem dX8_told_79 : decode cX8_told 79 = .ok (.getfield 177, 3) := by decide +kernel
theorem dX8_told_82 : decode cX8_told 82 = .ok (.ireturn, 1) := by decide +kernel
theorem dX8_told_83 : decode cX8_told 83 = .ok (.aload_n 0, 1) := by decide +kernel
theorem dX8_told_84 : decode cX8_told 84 = .ok (.bipush (-2), 2) := by decide +kernel
theorem dX8_told_86 : decode cX8_told 86 = .ok (.invokevirtual 72, 3) := by decide +kernel
theorem dX8_told_89 : decode cX8_told 89 = .ok (.ireturn, 1) := by decide +kernel
theorem dX8_digest_0 : decode cX8_digest 0 = .ok (.aload_n 0, 1) := by decide +kernel
theorem dX8_digest_1 : decode cX8_digest 1 = .ok (.invokevirtual 75, 3) := by decide +kernel
theorem dX8_digest_4 : decode cX8_digest 4 = .ok (.ldc2_w 191, 3) := by decide +kernel
theorem dX8_digest_7 : decode cX8_digest 7 = .ok (.lstore_n 1, 1) := by decide +kernel
theorem dX8_digest_8 : decode cX8_digest 8 = .ok (.iconst 0, 1) := by decide +kernel
theorem dX8_digest_9 : decode cX8_digest 9 = .ok (.istore_n 3, 1) := by decide +kernel
theorem dX8_digest_10 : decode cX8_digest 10 = .ok (.iload_n 3, 1) := by decide +kernel
theorem dX8_digest_11 : decode cX8_digest 11 = .ok (.bipush 7, 2) := by decide +kernel
theorem dX8_digest_13 : decode cX8_digest 13 = .ok (.if_icmp .ge 22, 3) := by decide +kernel
theorem dX8_digest_16 : decode cX8_digest 16 = .ok (.ldc2_w 193, 3) := by decide +kernel
theorem dX8_digest_19 : decode cX8_digest 19 = .ok (.lload_n 1, 1) := by decide +kernel
theorem dX8_digest_20 : decode cX8_digest 20 = .ok (.lmul, 1) := by decide +kernel
theorem dX8_digest_21 : decode cX8_digest 21 = .ok (.aload_n 0, 1) := by decide +kernel
theorem dX8_digest_22 : decode cX8_digest 22 = .ok (.iload_n 3, 1) := by decide +kernel
theorem dX8_digest_23 : decode cX8_digest 23 = .ok (.invokevirtual 195, 3) := by decide +kernel
theorem dX8_digest_26 : decode cX8_digest 26 = .ok (.i2l, 1) := by decide +kernel
theorem dX8_digest_27 : decode cX8_digest 27 = .ok (.ladd, 1) := by decide +kernel
theorem dX8_digest_28 : decode cX8_digest 28 = .ok (.lstore_n 1, 1) := by decide +kernel
theorem dX8_digest_29 : decode cX8_digest 29 = .ok (.iinc 3 1, 3) := by decide +kernel
theorem dX8_digest_32 : decode cX8_digest 32 = .ok (.goto (-22), 3) := by decide +kernel
theorem dX8_digest_35 : decode cX8_digest 35 = .ok (.iconst 0, 1) := by decide +kernel
theorem dX8_digest_36 : decode cX8_digest 36 = .ok (.istore_n 3, 1) := by decide +kernel
theorem dX8_digest_37 : decode cX8_digest 37 = .ok (.iload_n 3, 1) := by decide +kernel
theorem dX8_digest_38 : decode cX8_digest 38 = .ok (.bipush 8, 2) := by decide +kernel
theorem dX8_digest_40 : decode cX8_digest 40 = .ok (.if_icmp .ge 22, 3) := by decide +kernel
theorem dX8_digest_43 : decode cX8_digest 43 = .ok (.ldc2_w 193, 3) := by decide +kernel
theorem dX8_digest_46 : decode cX8_digest 46 = .ok (.lload_n 1, 1) := by decide +kernel
theorem dX8_digest_47 : decode cX8_digest 47 = .ok (.lmul, 1) := by decide +kernel
theorem dX8_digest_48 : decode cX8_digest 48 = .ok (.aload_n 0, 1) := by decide +kernel
theorem dX8_digest_49 : decode cX8_digest 49 = .ok (.iload_n 3, 1) := by decide +kernel
theorem dX8_digest_50 : decode cX8_digest 50 = .ok (.invokevirtual 81, 3) := by decide +kernel
theorem dX8_digest_53 : decode cX8_digest 53 = .ok (.i2l, 1) := by decide +kernel
theorem dX8_digest_54 : decode cX8_digest 54 = .ok (.ladd, 1) := by decide +kernel
theorem dX8_digest_55 : decode cX8_digest 55 = .ok (.lstore_n 1, 1) := by decide +kernel
theorem dX8_digest_56 : decode cX8_digest 56 = .ok (.iinc 3 1, 3) := by decide +kernel
theorem dX8_digest_59 : decode cX8_digest 59 = .ok (.goto (-22), 3) := by decide +kernel
theorem dX8_digest_62 : decode cX8_digest 62 = .ok (.iconst 0, 1) := by decide +kernel
theorem dX8_digest_63 : decode cX8_digest 63 = .ok (.istore_n 3, 1) := by decide +kernel
theorem dX8_digest_64 : decode cX8_digest 64 = .ok (.iload_n 3, 1) := by decide +kernel
theorem dX8_digest_65 : decode cX8_digest 65 = .ok (.aload_n 0, 1) := by decide +kernel
theorem dX8_digest_66 : decode cX8_digest 66 = .ok (.getfield 36, 3) := by decide +kernel
theorem dX8_digest_69 : decode cX8_digest 69 = .ok (.getfield 84, 3) := by decide +kernel
theorem dX8_digest_72 : decode cX8_digest 72 = .ok (.getfield 116, 3) := by decide +kernel
theorem dX8_digest_75 : decode cX8_digest 75 = .ok (.if_icmp .ge 40, 3) := by decide +kernel
theorem dX8_digest_78 : decode cX8_digest 78 = .ok (.iconst 0, 1) := by decide +kernel
theorem dX8_digest_79 : decode cX8_digest 79 = .ok (.istore 4, 2) := by decide +kernel
theorem dX8_digest_81 : decode cX8_digest 81 = .ok (.iload 4, 2) := by decide +kernel
theorem dX8_digest_83 : decode cX8_digest 83 = .ok (.bipush 6, 2) := by decide +kernel
theorem dX8_digest_85 : decode cX8_digest 85 = .ok (.if_icmp .ge 24, 3) := by decide +kernel
theorem dX8_digest_88 : decode cX8_digest 88 = .ok (.ldc2_w 193, 3) := by decide +kernel
theorem dX8_digest_91 : decode cX8_digest 91 = .ok (.lload_n 1, 1) := by decide +kernel
theorem dX8_digest_92 : decode cX8_digest 92 = .ok (.lmul, 1) := by decide +kernel
theorem dX8_digest_93 : decode cX8_digest 93 = .ok (.aload_n 0, 1) := by decide +kernel
theorem dX8_digest_94 : decode cX8_digest 94 = .ok (.iload_n 3, 1) := by decide +kernel
theorem dX8_digest_95 : decode cX8_digest 95 = .ok (.iload 4, 2) := by decide +kernel
theorem dX8_digest_97 : decode cX8_digest 97 = .ok (.invokevirtual 119, 3) := by decide +kernel
theorem dX8_digest_100 : decode cX8_digest 100 = .ok (.i2l, 1) := by decide +kernel
theorem dX8_digest_101 : decode cX8_digest 101 = .ok (.ladd, 1) := by decide +kernel
theorem dX8_digest_102 : decode cX8_digest 102 = .ok (.lstore_n 1, 1) := by decide +kernel
theorem dX8_digest_103 : decode cX8_digest 103 = .ok (.iinc 4 1, 3) := by decide +kernel
theorem dX8_digest_106 : decode cX8_digest 106 = .ok (.goto (-25), 3) := by decide +kernel
theorem dX8_digest_109 : decode cX8_digest 109 = .ok (.iinc 3 1, 3) := by decide +kernel
theorem dX8_digest_112 : decode cX8_digest 112 = .ok (.goto (-48), 3) := by decide +kernel
theorem dX8_digest_115 : decode cX8_digest 115 = .ok (.iconst 0, 1) := by decide +kernel
theorem dX8_digest_116 : decode cX8_digest 116 = .ok (.istore_n 3, 1) := by decide +kernel
theorem dX8_digest_117 : decode cX8_digest 117 = .ok (.iload_n 3, 1) := by decide +kernel
theorem dX8_digest_118 : decode cX8_digest 118 = .ok (.aload_n 0, 1) := by decide +kernel
theorem dX8_digest_119 : decode cX8_digest 119 = .ok (.getfield 36, 3) := by decide +kernel
theorem dX8_digest_122 : decode cX8_digest 122 = .ok (.getfield 129, 3) := by decide +kernel
theorem dX8_digest_125 : decode cX8_digest 125 = .ok (.if_icmp .ge 83, 3) := by decide +kernel
theorem dX8_digest_128 : decode cX8_digest 128 = .ok (.ldc2_w 193, 3) := by decide +kernel
theorem dX8_digest_131 : decode cX8_digest 131 = .ok (.lload_n 1, 1) := by decide +kernel
theorem dX8_digest_132 : decode cX8_digest 132 = .ok (.lmul, 1) := by decide +kernel
theorem dX8_digest_133 : decode cX8_digest 133 = .ok (.aload_n 0, 1) := by decide +kernel
theorem dX8_digest_134 : decode cX8_digest 134 = .ok (.getfield 36, 3) := by decide +kernel
theorem dX8_digest_137 : decode cX8_digest 137 = .ok (.getfield 130, 3) := by decide +kernel
theorem dX8_digest_140 : decode cX8_digest 140 = .ok (.iload_n 3, 1) := by decide +kernel
theorem dX8_digest_141 : decode cX8_digest 141 = .ok (.iaload, 1) := by decide +kernel
theorem dX8_digest_142 : decode cX8_digest 142 = .ok (.i2l, 1) := by decide +kernel
theorem dX8_digest_143 : decode cX8_digest 143 = .ok (.ladd, 1) := by decide +kernel
theorem dX8_digest_144 : decode cX8_digest 144 = .ok (.lstore_n 1, 1) := by decide +kernel
theorem dX8_digest_145 : decode cX8_digest 145 = .ok (.iconst 0, 1) := by decide +kernel
theorem dX8_digest_146 : decode cX8_digest 146 = .ok (.istore 4, 2) := by decide +kernel
theorem dX8_digest_148 : decode cX8_digest 148 = .ok (.iload 4, 2) := by decide +kernel
theorem dX8_digest_150 : decode cX8_digest 150 = .ok (.aload_n 0, 1) := by decide +kernel
theorem dX8_digest_151 : decode cX8_digest 151 = .ok (.getfield 36, 3) := by decide +kernel
theorem dX8_digest_154 : decode cX8_digest 154 = .ok (.getfield 129, 3) := by decide +kernel
theorem dX8_digest_157 : decode cX8_digest 157 = .ok (.if_icmp .ge 29, 3) := by decide +kernel
theorem dX8_digest_160 : decode cX8_digest 160 = .ok (.ldc2_w 193, 3) := by decide +kernel
theorem dX8_digest_163 : decode cX8_digest 163 = .ok (.lload_n 1, 1) := by decide +kernel
theorem dX8_digest_164 : decode cX8_digest 164 = .ok (.lmul, 1) := by decide +kernel
theorem dX8_digest_165 : decode cX8_digest 165 = .ok (.aload_n 0, 1) := by decide +kernel
theorem dX8_digest_166 : decode cX8_digest 166 = .ok (.getfield 36, 3) := by decide +kernel
theorem dX8_digest_169 : decode cX8_digest 169 = .ok (.getfield 133, 3) := by decide +kernel
theorem dX8_digest_172 : decode cX8_digest 172 = .ok (.iload_n 3, 1) := by decide +kernel
theorem dX8_digest_173 : decode cX8_digest 173 = .ok (.aaload, 1) := by decide +kernel
theorem dX8_digest_174 : decode cX8_digest 174 = .ok (.iload 4, 2) := by decide +kernel
theorem dX8_digest_176 : decode cX8_digest 176 = .ok (.iaload, 1) := by decide +kernel
theorem dX8_digest_177 : decode cX8_digest 177 = .ok (.i2l, 1) := by decide +kernel
theorem dX8_digest_178 : decode cX8_digest 178 = .ok (.ladd, 1) := by decide +kernel
theorem dX8_digest_179 : decode cX8_digest 179 = .ok (.lstore_n 1, 1) := by decide +kernel
theorem dX8_digest_180 : decode cX8_digest 180 = .ok (.iinc 4 1, 3) := by decide +kernel
theorem dX8_digest_183 : decode cX8_digest 183 = .ok (.goto (-35), 3) := by decide +kernel
theorem dX8_digest_186 : decode cX8_digest 186 = .ok (.ldc2_w 193, 3) := by decide +kernel
theorem dX8_digest_189 : decode cX8_digest 189 = .ok (.lload_n 1, 1) := by decide +kernel
theorem dX8_digest_190 : decode cX8_digest 190 = .ok (.lmul, 1) := by decide +kernel
theorem dX8_digest_191 : decode cX8_digest 191 = .ok (.aload_n 0, 1) := by decide +kernel
theorem dX8_digest_192 : decode cX8_digest 192 = .ok (.getfield 36, 3) := by decide +kernel
theorem dX8_digest_195 : decode cX8_digest 195 = .ok (.iload_n 3, 1) := by decide +kernel
theorem dX8_digest_196 : decode cX8_digest 196 = .ok (.invokevirtual 143, 3) := by decide +kernel
theorem dX8_digest_199 : decode cX8_digest 199 = .ok (.i2l, 1) := by decide +kernel
theorem dX8_digest_200 : decode cX8_digest 200 = .ok (.ladd, 1) := by decide +kernel
theorem dX8_digest_201 : decode cX8_digest 201 = .ok (.lstore_n 1, 1) := by decide +kernel
theorem dX8_digest_202 : decode cX8_digest 202 = .ok (.iinc 3 1, 3) := by decide +kernel
theorem dX8_digest_205 : decode cX8_digest 205 = .ok (.goto (-88), 3) := by decide +kernel
theorem dX8_digest_208 : decode cX8_digest 208 = .ok (.lload_n 1, 1) := by decide +kernel
theorem dX8_digest_209 : decode cX8_digest 209 = .ok (.lreturn, 1) := by decide +kernel
theorem dX8_isBelow_0 : decode cX8_isBelow 0 = .ok (.iload_n 0, 1) := by decide +kernel
theorem dX8_isBelow_1 : decode cX8_isBelow 1 = .ok (.ifCond .lt 12, 3) := by decide +kernel
theorem dX8_isBelow_4 : decode cX8_isBelow 4 = .ok (.iload_n 0, 1) := by decide +kernel
theorem dX8_isBelow_5 : decode cX8_isBelow 5 = .ok (.iload_n 1, 1) := by decide +kernel
theorem dX8_isBelow_6 : decode cX8_isBelow 6 = .ok (.if_icmp .ge 7, 3) := by decide +kernel
theorem dX8_isBelow_9 : decode cX8_isBelow 9 = .ok (.iconst 1, 1) := by decide +kernel
theorem dX8_isBelow_10 : decode cX8_isBelow 10 = .ok (.goto 4, 3) := by decide +kernel
theorem dX8_isBelow_13 : decode cX8_isBelow 13 = .ok (.iconst 0, 1) := by decide +kernel
theorem dX8_isBelow_14 : decode cX8_isBelow 14 = .ok (.ireturn, 1) := by decide +kernel
theorem dX8_refused_0 : decode cX8_refused 0 = .ok (.bipush (-2), 2) := by decide +kernel
theorem dX8_refused_2 : decode cX8_refused 2 = .ok (.iload_n 1, 1) := by decide +kernel
theorem dX8_refused_3 : decode cX8_refused 3 = .ok (.isub, 1) := by decide +kernel
theorem dX8_refused_4 : decode cX8_refused 4 = .ok (.istore_n 2, 1) := by decide +kernel
theorem dX8_refused_5 : decode cX8_refused 5 = .ok (.iload_n 2, 1) := by decide +kernel
theorem dX8_refused_6 : decode cX8_refused 6 = .ok (.aload_n 0, 1) := by decide +kernel
theorem dX8_refused_7 : decode cX8_refused 7 = .ok (.getfield 40, 3) := by decide +kernel
theorem dX8_refused_10 : decode cX8_refused 10 = .ok (.arraylength, 1) := by decide +kernel
theorem dX8_refused_11 : decode cX8_refused 11 = .ok (.invokestatic 68, 3) := by decide +kernel
theorem dX8_refused_14 : decode cX8_refused 14 = .ok (.ifCond .eq 13, 3) := by decide +kernel
theorem dX8_refused_17 : decode cX8_refused 17 = .ok (.aload_n 0, 1) := by decide +kernel
theorem dX8_refused_18 : decode cX8_refused 18 = .ok (.getfield 40, 3) := by decide +kernel
theorem dX8_refused_21 : decode cX8_refused 21 = .ok (.iload_n 2, 1) := by decide +kernel
theorem dX8_refused_22 : decode cX8_refused 22 = .ok (.dup2, 1) := by decide +kernel
theorem dX8_refused_23 : decode cX8_refused 23 = .ok (.iaload, 1) := by decide +kernel
theorem dX8_refused_24 : decode cX8_refused 24 = .ok (.iconst 1, 1) := by decide +kernel
theorem dX8_refused_25 : decode cX8_refused 25 = .ok (.iadd, 1) := by decide +kernel
theorem dX8_refused_26 : decode cX8_refused 26 = .ok (.iastore, 1) := by decide +kernel
theorem dX8_refused_27 : decode cX8_refused 27 = .ok (.iload_n 1, 1) := by decide +kernel
theorem dX8_refused_28 : decode cX8_refused 28 = .ok (.ireturn, 1) := by decide +kernel
theorem dX8_settled_0 : decode cX8_settled 0 = .ok (.iload_n 1, 1) := by decide +kernel
theorem dX8_settled_1 : decode cX8_settled 1 = .ok (.ifCond .ge 9, 3) := by decide +kernel
theorem dX8_settled_4 : decode cX8_settled 4 = .ok (.aload_n 0, 1) := by decide +kernel
theorem dX8_settled_5 : decode cX8_settled 5 = .ok (.iload_n 1, 1) := by decide +kernel
theorem dX8_settled_6 : decode cX8_settled 6 = .ok (.invokevirtual 72, 3) := by decide +kernel
theorem dX8_settled_9 : decode cX8_settled 9 = .ok (.ireturn, 1) := by decide +kernel
theorem dX8_settled_10 : decode cX8_settled 10 = .ok (.aload_n 0, 1) := by decide +kernel
theorem dX8_settled_11 : decode cX8_settled 11 = .ok (.getfield 22, 3) := by decide +kernel
theorem dX8_settled_14 : decode cX8_settled 14 = .ok (.aload_n 0, 1) := by decide +kernel
theorem dX8_settled_15 : decode cX8_settled 15 = .ok (.getfield 10, 3) := by decide +kernel
theorem dX8_settled_18 : decode cX8_settled 18 = .ok (.invokevirtual 198, 3) := by decide +kernel
theorem dX8_settled_21 : decode cX8_settled 21 = .ok (.aload_n 0, 1) := by decide +kernel
theorem dX8_settled_22 : decode cX8_settled 22 = .ok (.getfield 10, 3) := by decide +kernel
theorem dX8_settled_25 : decode cX8_settled 25 = .ok (.aload_n 0, 1) := by decide +kernel
theorem dX8_settled_26 : decode cX8_settled 26 = .ok (.getfield 16, 3) := by decide +kernel
theorem dX8_settled_29 : decode cX8_settled 29 = .ok (.invokevirtual 51, 3) := by decide +kernel
theorem dX8_settled_32 : decode cX8_settled 32 = .ok (.aload_n 0, 1) := by decide +kernel
theorem dX8_settled_33 : decode cX8_settled 33 = .ok (.invokevirtual 181, 3) := by decide +kernel
theorem dX8_settled_36 : decode cX8_settled 36 = .ok (.iload_n 1, 1) := by decide +kernel
theorem dX8_settled_37 : decode cX8_settled 37 = .ok (.ireturn, 1) := by decide +kernel
theorem dX8_forgetReckoned_0 : decode cX8_forgetReckoned 0 = .ok (.aload_n 0, 1) := by decide +kernel
theorem dX8_forgetReckoned_1 : decode cX8_forgetReckoned 1 = .ok (.iconst 0, 1) := by decide +kernel
theorem dX8_forgetReckoned_2 : decode cX8_forgetReckoned 2 = .ok (.putfield 44, 3) := by decide +kernel
theorem dX8_forgetReckoned_5 : decode cX8_forgetReckoned 5 = .ok (.aload_n 0, 1) := by decide +kernel
theorem dX8_forgetReckoned_6 : decode cX8_forgetReckoned 6 = .ok (.iconst 0, 1) := by decide +kernel
theorem dX8_forgetReckoned_7 : decode cX8_forgetReckoned 7 = .ok (.putfield 48, 3) := by decide +kernel
theorem dX8_forgetReckoned_10 : decode cX8_forgetReckoned 10 = .ok (.return_, 1) := by decide +kernel
theorem dX8_learnSorts_0 : decode cX8_learnSorts 0 = .ok (.aload_n 0, 1) := by decide +kernel
theorem dX8_learnSorts_1 : decode cX8_learnSorts 1 = .ok (.getfield 44, 3) := by decide +kernel
theorem dX8_learnSorts_4 : decode cX8_learnSorts 4 = .ok (.ifCond .ne 78, 3) := by decide +kernel
theorem dX8_learnSorts_7 : decode cX8_learnSorts 7 = .ok (.aload_n 0, 1) := by decide +kernel
theorem dX8_learnSorts_8 : decode cX8_learnSorts 8 = .ok (.getfield 36, 3) := by decide +kernel
theorem dX8_learnSorts_11 : decode cX8_learnSorts 11 = .ok (.getfield 84, 3) := by decide +kernel
theorem dX8_learnSorts_14 : decode cX8_learnSorts 14 = .ok (.getfield 88, 3) := by decide +kernel
theorem dX8_learnSorts_17 : decode cX8_learnSorts 17 = .ok (.aload_n 0, 1) := by decide +kernel
theorem dX8_learnSorts_18 : decode cX8_learnSorts 18 = .ok (.getfield 10, 3) := by decide +kernel
theorem dX8_learnSorts_21 : decode cX8_learnSorts 21 = .ok (.invokevirtual 201, 3) := by decide +kernel
theorem dX8_learnSorts_24 : decode cX8_learnSorts 24 = .ok (.aload_n 0, 1) := by decide +kernel
theorem dX8_learnSorts_25 : decode cX8_learnSorts 25 = .ok (.getfield 36, 3) := by decide +kernel
theorem dX8_learnSorts_28 : decode cX8_learnSorts 28 = .ok (.getfield 84, 3) := by decide +kernel
theorem dX8_learnSorts_31 : decode cX8_learnSorts 31 = .ok (.invokevirtual 204, 3) := by decide +kernel
theorem dX8_learnSorts_34 : decode cX8_learnSorts 34 = .ok (.aload_n 0, 1) := by decide +kernel
theorem dX8_learnSorts_35 : decode cX8_learnSorts 35 = .ok (.getfield 36, 3) := by decide +kernel
theorem dX8_learnSorts_38 : decode cX8_learnSorts 38 = .ok (.getfield 84, 3) := by decide +kernel
theorem dX8_learnSorts_41 : decode cX8_learnSorts 41 = .ok (.invokevirtual 207, 3) := by decide +kernel
theorem dX8_learnSorts_44 : decode cX8_learnSorts 44 = .ok (.aload_n 0, 1) := by decide +kernel
theorem dX8_learnSorts_45 : decode cX8_learnSorts 45 = .ok (.getfield 36, 3) := by decide +kernel
theorem dX8_learnSorts_48 : decode cX8_learnSorts 48 = .ok (.getfield 210, 3) := by decide +kernel
theorem dX8_learnSorts_51 : decode cX8_learnSorts 51 = .ok (.aload_n 0, 1) := by decide +kernel
theorem dX8_learnSorts_52 : decode cX8_learnSorts 52 = .ok (.getfield 36, 3) := by decide +kernel
theorem dX8_learnSorts_55 : decode cX8_learnSorts 55 = .ok (.getfield 84, 3) := by decide +kernel
theorem dX8_learnSorts_58 : decode cX8_learnSorts 58 = .ok (.getfield 88, 3) := by decide +kernel
theorem dX8_learnSorts_61 : decode cX8_learnSorts 61 = .ok (.getfield 94, 3) := by decide +kernel
theorem dX8_learnSorts_64 : decode cX8_learnSorts 64 = .ok (.aload_n 0, 1) := by decide +kernel
theorem dX8_learnSorts_65 : decode cX8_learnSorts 65 = .ok (.getfield 36, 3) := by decide +kernel
theorem dX8_learnSorts_68 : decode cX8_learnSorts 68 = .ok (.getfield 84, 3) := by decide +kernel
theorem dX8_learnSorts_71 : decode cX8_learnSorts 71 = .ok (.getfield 214, 3) := by decide +kernel
theorem dX8_learnSorts_74 : decode cX8_learnSorts 74 = .ok (.invokevirtual 217, 3) := by decide +kernel
theorem dX8_learnSorts_77 : decode cX8_learnSorts 77 = .ok (.aload_n 0, 1) := by decide +kernel
theorem dX8_learnSorts_78 : decode cX8_learnSorts 78 = .ok (.iconst 1, 1) := by decide +kernel
theorem dX8_learnSorts_79 : decode cX8_learnSorts 79 = .ok (.putfield 44, 3) := by decide +kernel
theorem dX8_learnSorts_82 : decode cX8_learnSorts 82 = .ok (.return_, 1) := by decide +kernel
theorem dX8_learnRows_0 : decode cX8_learnRows 0 = .ok (.aload_n 0, 1) := by decide +kernel
theorem dX8_learnRows_1 : decode cX8_learnRows 1 = .ok (.invokevirtual 78, 3) := by decide +kernel
theorem dX8_learnRows_4 : decode cX8_learnRows 4 = .ok (.aload_n 0, 1) := by decide +kernel
theorem dX8_learnRows_5 : decode cX8_learnRows 5 = .ok (.getfield 48, 3) := by decide +kernel
theorem dX8_learnRows_8 : decode cX8_learnRows 8 = .ok (.ifCond .ne 15, 3) := by decide +kernel
theorem dX8_learnRows_11 : decode cX8_learnRows 11 = .ok (.aload_n 0, 1) := by decide +kernel
theorem dX8_learnRows_12 : decode cX8_learnRows 12 = .ok (.getfield 36, 3) := by decide +kernel
theorem dX8_learnRows_15 : decode cX8_learnRows 15 = .ok (.invokevirtual 222, 3) := by decide +kernel
theorem dX8_learnRows_18 : decode cX8_learnRows 18 = .ok (.aload_n 0, 1) := by decide +kernel
theorem dX8_learnRows_19 : decode cX8_learnRows 19 = .ok (.iconst 1, 1) := by decide +kernel
theorem dX8_learnRows_20 : decode cX8_learnRows 20 = .ok (.putfield 48, 3) := by decide +kernel
theorem dX8_learnRows_23 : decode cX8_learnRows 23 = .ok (.return_, 1) := by decide +kernel
theorem dX8_wholeAnswer_0 : decode cX8_wholeAnswer 0 = .ok (.iload_n 1, 1) := by decide +kernel
theorem dX8_wholeAnswer_1 : decode cX8_wholeAnswer 1 = .ok (.tableswitch 120 0 6 #[43, 57, 68, 79, 90, 101, 109], 43) := by decide +kernel
theorem dX8_wholeAnswer_44 : decode cX8_wholeAnswer 44 = .ok (.aload_n 0, 1) := by decide +kernel
theorem dX8_wholeAnswer_45 : decode cX8_wholeAnswer 45 = .ok (.getfield 36, 3) := by decide +kernel
theorem dX8_wholeAnswer_48 : decode cX8_wholeAnswer 48 = .ok (.getfield 84, 3) := by decide +kernel
theorem dX8_wholeAnswer_51 : decode cX8_wholeAnswer 51 = .ok (.getfield 88, 3) := by decide +kernel
theorem dX8_wholeAnswer_54 : decode cX8_wholeAnswer 54 = .ok (.getfield 94, 3) := by decide +kernel
theorem dX8_wholeAnswer_57 : decode cX8_wholeAnswer 57 = .ok (.ireturn, 1) := by decide +kernel
theorem dX8_wholeAnswer_58 : decode cX8_wholeAnswer 58 = .ok (.aload_n 0, 1) := by decide +kernel
theorem dX8_wholeAnswer_59 : decode cX8_wholeAnswer 59 = .ok (.getfield 36, 3) := by decide +kernel
theorem dX8_wholeAnswer_62 : decode cX8_wholeAnswer 62 = .ok (.getfield 84, 3) := by decide +kernel
theorem dX8_wholeAnswer_65 : decode cX8_wholeAnswer 65 = .ok (.getfield 116, 3) := by decide +kernel
theorem dX8_wholeAnswer_68 : decode cX8_wholeAnswer 68 = .ok (.ireturn, 1) := by decide +kernel
theorem dX8_wholeAnswer_69 : decode cX8_wholeAnswer 69 = .ok (.aload_n 0, 1) := by decide +kernel
theorem dX8_wholeAnswer_70 : decode cX8_wholeAnswer 70 = .ok (.getfield 36, 3) := by decide +kernel
theorem dX8_wholeAnswer_73 : decode cX8_wholeAnswer 73 = .ok (.getfield 84, 3) := by decide +kernel
theorem dX8_wholeAnswer_76 : decode cX8_wholeAnswer 76 = .ok (.getfield 214, 3) := by decide +kernel
theorem dX8_wholeAnswer_79 : decode cX8_wholeAnswer 79 = .ok (.ireturn, 1) := by decide +kernel
theorem dX8_wholeAnswer_80 : decode cX8_wholeAnswer 80 = .ok (.aload_n 0, 1) := by decide +kernel
theorem dX8_wholeAnswer_81 : decode cX8_wholeAnswer 81 = .ok (.getfield 36, 3) := by decide +kernel
theorem dX8_wholeAnswer_84 : decode cX8_wholeAnswer 84 = .ok (.getfield 210, 3) := by decide +kernel
theorem dX8_wholeAnswer_87 : decode cX8_wholeAnswer 87 = .ok (.getfield 224, 3) := by decide +kernel
theorem dX8_wholeAnswer_90 : decode cX8_wholeAnswer 90 = .ok (.ireturn, 1) := by decide +kernel
theorem dX8_wholeAnswer_91 : decode cX8_wholeAnswer 91 = .ok (.aload_n 0, 1) := by decide +kernel
theorem dX8_wholeAnswer_92 : decode cX8_wholeAnswer 92 = .ok (.getfield 36, 3) := by decide +kernel
theorem dX8_wholeAnswer_95 : decode cX8_wholeAnswer 95 = .ok (.getfield 210, 3) := by decide +kernel
theorem dX8_wholeAnswer_98 : decode cX8_wholeAnswer 98 = .ok (.getfield 227, 3) := by decide +kernel
theorem dX8_wholeAnswer_101 : decode cX8_wholeAnswer 101 = .ok (.ireturn, 1) := by decide +kernel
theorem dX8_wholeAnswer_102 : decode cX8_wholeAnswer 102 = .ok (.aload_n 0, 1) := by decide +kernel
theorem dX8_wholeAnswer_103 : decode cX8_wholeAnswer 103 = .ok (.getfield 10, 3) := by decide +kernel
theorem dX8_wholeAnswer_106 : decode cX8_wholeAnswer 106 = .ok (.getfield 190, 3) := by decide +kernel
theorem dX8_wholeAnswer_109 : decode cX8_wholeAnswer 109 = .ok (.ireturn, 1) := by decide +kernel
theorem dX8_wholeAnswer_110 : decode cX8_wholeAnswer 110 = .ok (.aload_n 0, 1) := by decide +kernel
theorem dX8_wholeAnswer_111 : decode cX8_wholeAnswer 111 = .ok (.getfield 36, 3) := by decide +kernel
theorem dX8_wholeAnswer_114 : decode cX8_wholeAnswer 114 = .ok (.getfield 84, 3) := by decide +kernel
theorem dX8_wholeAnswer_117 : decode cX8_wholeAnswer 117 = .ok (.invokevirtual 230, 3) := by decide +kernel
theorem dX8_wholeAnswer_120 : decode cX8_wholeAnswer 120 = .ok (.ireturn, 1) := by decide +kernel
theorem dX8_wholeAnswer_121 : decode cX8_wholeAnswer 121 = .ok (.aload_n 0, 1) := by decide +kernel
theorem dX8_wholeAnswer_122 : decode cX8_wholeAnswer 122 = .ok (.getfield 36, 3) := by decide +kernel
theorem dX8_wholeAnswer_125 : decode cX8_wholeAnswer 125 = .ok (.invokevirtual 233, 3) := by decide +kernel
theorem dX8_wholeAnswer_128 : decode cX8_wholeAnswer 128 = .ok (.ireturn, 1) := by decide +kernel
theorem dX8_sortAnswer_0 : decode cX8_sortAnswer 0 = .ok (.aload_n 0, 1) := by decide +kernel
theorem dX8_sortAnswer_1 : decode cX8_sortAnswer 1 = .ok (.getfield 36, 3) := by decide +kernel
theorem dX8_sortAnswer_4 : decode cX8_sortAnswer 4 = .ok (.getfield 84, 3) := by decide +kernel
theorem dX8_sortAnswer_7 : decode cX8_sortAnswer 7 = .ok (.astore_n 3, 1) := by decide +kernel
theorem dX8_sortAnswer_8 : decode cX8_sortAnswer 8 = .ok (.iload_n 2, 1) := by decide +kernel
theorem dX8_sortAnswer_9 : decode cX8_sortAnswer 9 = .ok (.tableswitch 70 0 4 #[35, 42, 49, 56, 63], 35) := by decide +kernel
theorem dX8_sortAnswer_44 : decode cX8_sortAnswer 44 = .ok (.aload_n 3, 1) := by decide +kernel
theorem dX8_sortAnswer_45 : decode cX8_sortAnswer 45 = .ok (.getfield 236, 3) := by decide +kernel
theorem dX8_sortAnswer_48 : decode cX8_sortAnswer 48 = .ok (.iload_n 1, 1) := by decide +kernel
theorem dX8_sortAnswer_49 : decode cX8_sortAnswer 49 = .ok (.iaload, 1) := by decide +kernel
theorem dX8_sortAnswer_50 : decode cX8_sortAnswer 50 = .ok (.ireturn, 1) := by decide +kernel
theorem dX8_sortAnswer_51 : decode cX8_sortAnswer 51 = .ok (.aload_n 3, 1) := by decide +kernel
theorem dX8_sortAnswer_52 : decode cX8_sortAnswer 52 = .ok (.getfield 109, 3) := by decide +kernel
theorem dX8_sortAnswer_55 : decode cX8_sortAnswer 55 = .ok (.iload_n 1, 1) := by decide +kernel
theorem dX8_sortAnswer_56 : decode cX8_sortAnswer 56 = .ok (.iaload, 1) := by decide +kernel
theorem dX8_sortAnswer_57 : decode cX8_sortAnswer 57 = .ok (.ireturn, 1) := by decide +kernel
theorem dX8_sortAnswer_58 : decode cX8_sortAnswer 58 = .ok (.aload_n 3, 1) := by decide +kernel
theorem dX8_sortAnswer_59 : decode cX8_sortAnswer 59 = .ok (.getfield 239, 3) := by decide +kernel
theorem dX8_sortAnswer_62 : decode cX8_sortAnswer 62 = .ok (.iload_n 1, 1) := by decide +kernel
theorem dX8_sortAnswer_63 : decode cX8_sortAnswer 63 = .ok (.iaload, 1) := by decide +kernel
theorem dX8_sortAnswer_64 : decode cX8_sortAnswer 64 = .ok (.ireturn, 1) := by decide +kernel
theorem dX8_sortAnswer_65 : decode cX8_sortAnswer 65 = .ok (.aload_n 3, 1) := by decide +kernel
theorem dX8_sortAnswer_66 : decode cX8_sortAnswer 66 = .ok (.getfield 242, 3) := by decide +kernel
theorem dX8_sortAnswer_69 : decode cX8_sortAnswer 69 = .ok (.iload_n 1, 1) := by decide +kernel
theorem dX8_sortAnswer_70 : decode cX8_sortAnswer 70 = .ok (.iaload, 1) := by decide +kernel
theorem dX8_sortAnswer_71 : decode cX8_sortAnswer 71 = .ok (.ireturn, 1) := by decide +kernel
theorem dX8_sortAnswer_72 : decode cX8_sortAnswer 72 = .ok (.aload_n 3, 1) := by decide +kernel
theorem dX8_sortAnswer_73 : decode cX8_sortAnswer 73 = .ok (.iload_n 1, 1) := by decide +kernel
theorem dX8_sortAnswer_74 : decode cX8_sortAnswer 74 = .ok (.iconst 2, 1) := by decide +kernel
theorem dX8_sortAnswer_75 : decode cX8_sortAnswer 75 = .ok (.invokevirtual 243, 3) := by decide +kernel
theorem dX8_sortAnswer_78 : decode cX8_sortAnswer 78 = .ok (.ireturn, 1) := by decide +kernel
theorem dX8_sortAnswer_79 : decode cX8_sortAnswer 79 = .ok (.aload_n 3, 1) := by decide +kernel
theorem dX8_sortAnswer_80 : decode cX8_sortAnswer 80 = .ok (.getfield 159, 3) := by decide +kernel
theorem dX8_sortAnswer_83 : decode cX8_sortAnswer 83 = .ok (.iload_n 1, 1) := by decide +kernel
theorem dX8_sortAnswer_84 : decode cX8_sortAnswer 84 = .ok (.iaload, 1) := by decide +kernel
theorem dX8_sortAnswer_85 : decode cX8_sortAnswer 85 = .ok (.ireturn, 1) := by decide +kernel
