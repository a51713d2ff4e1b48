theorem dX4_init_0 : decode cX4_init 0 = .ok (.aload_n 0, 1) := by decide +kernel
theorem dX4_init_1 : decode cX4_init 1 = .ok (.invokespecial 3, 3) := by decide +kernel
theorem dX4_init_4 : decode cX4_init 4 = .ok (.aload_n 0, 1) := by decide +kernel
theorem dX4_init_5 : decode cX4_init 5 = .ok (.iconst 0, 1) := by decide +kernel
theorem dX4_init_6 : decode cX4_init 6 = .ok (.putfield 9, 3) := by decide +kernel
theorem dX4_init_9 : decode cX4_init 9 = .ok (.aload_n 0, 1) := by decide +kernel
theorem dX4_init_10 : decode cX4_init 10 = .ok (.bipush 80, 2) := by decide +kernel
theorem dX4_init_12 : decode cX4_init 12 = .ok (.newarray .int, 2) := by decide +kernel
theorem dX4_init_14 : decode cX4_init 14 = .ok (.putfield 15, 3) := by decide +kernel
theorem dX4_init_17 : decode cX4_init 17 = .ok (.aload_n 0, 1) := by decide +kernel
theorem dX4_init_18 : decode cX4_init 18 = .ok (.bipush 27, 2) := by decide +kernel
theorem dX4_init_20 : decode cX4_init 20 = .ok (.newarray .int, 2) := by decide +kernel
theorem dX4_init_22 : decode cX4_init 22 = .ok (.putfield 19, 3) := by decide +kernel
theorem dX4_init_25 : decode cX4_init 25 = .ok (.aload_n 0, 1) := by decide +kernel
theorem dX4_init_26 : decode cX4_init 26 = .ok (.bipush 27, 2) := by decide +kernel
theorem dX4_init_28 : decode cX4_init 28 = .ok (.newarray .int, 2) := by decide +kernel
theorem dX4_init_30 : decode cX4_init 30 = .ok (.putfield 22, 3) := by decide +kernel
theorem dX4_init_33 : decode cX4_init 33 = .ok (.aload_n 0, 1) := by decide +kernel
theorem dX4_init_34 : decode cX4_init 34 = .ok (.iconst 0, 1) := by decide +kernel
theorem dX4_init_35 : decode cX4_init 35 = .ok (.putfield 25, 3) := by decide +kernel
theorem dX4_init_38 : decode cX4_init 38 = .ok (.aload_n 0, 1) := by decide +kernel
theorem dX4_init_39 : decode cX4_init 39 = .ok (.iconst 0, 1) := by decide +kernel
theorem dX4_init_40 : decode cX4_init 40 = .ok (.putfield 28, 3) := by decide +kernel
theorem dX4_init_43 : decode cX4_init 43 = .ok (.aload_n 0, 1) := by decide +kernel
theorem dX4_init_44 : decode cX4_init 44 = .ok (.iconst 0, 1) := by decide +kernel
theorem dX4_init_45 : decode cX4_init 45 = .ok (.putfield 31, 3) := by decide +kernel
theorem dX4_init_48 : decode cX4_init 48 = .ok (.aload_n 0, 1) := by decide +kernel
theorem dX4_init_49 : decode cX4_init 49 = .ok (.iconst 0, 1) := by decide +kernel
theorem dX4_init_50 : decode cX4_init 50 = .ok (.putfield 34, 3) := by decide +kernel
theorem dX4_init_53 : decode cX4_init 53 = .ok (.aload_n 0, 1) := by decide +kernel
theorem dX4_init_54 : decode cX4_init 54 = .ok (.iconst 0, 1) := by decide +kernel
theorem dX4_init_55 : decode cX4_init 55 = .ok (.putfield 37, 3) := by decide +kernel
theorem dX4_init_58 : decode cX4_init 58 = .ok (.aload_n 0, 1) := by decide +kernel
theorem dX4_init_59 : decode cX4_init 59 = .ok (.iconst 0, 1) := by decide +kernel
theorem dX4_init_60 : decode cX4_init 60 = .ok (.putfield 40, 3) := by decide +kernel
theorem dX4_init_63 : decode cX4_init 63 = .ok (.return_, 1) := by decide +kernel
theorem dX4_append_0 : decode cX4_append 0 = .ok (.iload_n 1, 1) := by decide +kernel
theorem dX4_append_1 : decode cX4_append 1 = .ok (.sipush 128, 3) := by decide +kernel
theorem dX4_append_4 : decode cX4_append 4 = .ok (.invokestatic 43, 3) := by decide +kernel
theorem dX4_append_7 : decode cX4_append 7 = .ok (.ifCond .ne 6, 3) := by decide +kernel
theorem dX4_append_10 : decode cX4_append 10 = .ok (.bipush (-2), 2) := by decide +kernel
theorem dX4_append_12 : decode cX4_append 12 = .ok (.ireturn, 1) := by decide +kernel
theorem dX4_append_13 : decode cX4_append 13 = .ok (.aload_n 0, 1) := by decide +kernel
theorem dX4_append_14 : decode cX4_append 14 = .ok (.getfield 9, 3) := by decide +kernel
theorem dX4_append_17 : decode cX4_append 17 = .ok (.bipush 80, 2) := by decide +kernel
theorem dX4_append_19 : decode cX4_append 19 = .ok (.if_icmp .lt 6, 3) := by decide +kernel
theorem dX4_append_22 : decode cX4_append 22 = .ok (.bipush (-4), 2) := by decide +kernel
theorem dX4_append_24 : decode cX4_append 24 = .ok (.ireturn, 1) := by decide +kernel
theorem dX4_append_25 : decode cX4_append 25 = .ok (.aload_n 0, 1) := by decide +kernel
theorem dX4_append_26 : decode cX4_append 26 = .ok (.getfield 15, 3) := by decide +kernel
theorem dX4_append_29 : decode cX4_append 29 = .ok (.aload_n 0, 1) := by decide +kernel
theorem dX4_append_30 : decode cX4_append 30 = .ok (.getfield 9, 3) := by decide +kernel
theorem dX4_append_33 : decode cX4_append 33 = .ok (.iload_n 1, 1) := by decide +kernel
theorem dX4_append_34 : decode cX4_append 34 = .ok (.iastore, 1) := by decide +kernel
theorem dX4_append_35 : decode cX4_append 35 = .ok (.aload_n 0, 1) := by decide +kernel
theorem dX4_append_36 : decode cX4_append 36 = .ok (.dup, 1) := by decide +kernel
theorem dX4_append_37 : decode cX4_append 37 = .ok (.getfield 9, 3) := by decide +kernel
theorem dX4_append_40 : decode cX4_append 40 = .ok (.iconst 1, 1) := by decide +kernel
theorem dX4_append_41 : decode cX4_append 41 = .ok (.iadd, 1) := by decide +kernel
theorem dX4_append_42 : decode cX4_append 42 = .ok (.putfield 9, 3) := by decide +kernel
theorem dX4_append_45 : decode cX4_append 45 = .ok (.aload_n 0, 1) := by decide +kernel
theorem dX4_append_46 : decode cX4_append 46 = .ok (.getfield 9, 3) := by decide +kernel
theorem dX4_append_49 : decode cX4_append 49 = .ok (.ireturn, 1) := by decide +kernel
theorem dX4_empty_0 : decode cX4_empty 0 = .ok (.aload_n 0, 1) := by decide +kernel
theorem dX4_empty_1 : decode cX4_empty 1 = .ok (.getfield 9, 3) := by decide +kernel
theorem dX4_empty_4 : decode cX4_empty 4 = .ok (.istore_n 1, 1) := by decide +kernel
theorem dX4_empty_5 : decode cX4_empty 5 = .ok (.aload_n 0, 1) := by decide +kernel
theorem dX4_empty_6 : decode cX4_empty 6 = .ok (.iconst 0, 1) := by decide +kernel
theorem dX4_empty_7 : decode cX4_empty 7 = .ok (.putfield 9, 3) := by decide +kernel
theorem dX4_empty_10 : decode cX4_empty 10 = .ok (.iload_n 1, 1) := by decide +kernel
theorem dX4_empty_11 : decode cX4_empty 11 = .ok (.ireturn, 1) := by decide +kernel
theorem dX4_carryOut_0 : decode cX4_carryOut 0 = .ok (.aload_n 0, 1) := by decide +kernel
theorem dX4_carryOut_1 : decode cX4_carryOut 1 = .ok (.aload_n 1, 1) := by decide +kernel
theorem dX4_carryOut_2 : decode cX4_carryOut 2 = .ok (.getfield 47, 3) := by decide +kernel
theorem dX4_carryOut_5 : decode cX4_carryOut 5 = .ok (.invokevirtual 52, 3) := by decide +kernel
theorem dX4_carryOut_8 : decode cX4_carryOut 8 = .ok (.istore_n 2, 1) := by decide +kernel
theorem dX4_carryOut_9 : decode cX4_carryOut 9 = .ok (.iload_n 2, 1) := by decide +kernel
theorem dX4_carryOut_10 : decode cX4_carryOut 10 = .ok (.iconst (-1), 1) := by decide +kernel
theorem dX4_carryOut_11 : decode cX4_carryOut 11 = .ok (.if_icmp .eq 8, 3) := by decide +kernel
theorem dX4_carryOut_14 : decode cX4_carryOut 14 = .ok (.bipush (-10), 2) := by decide +kernel
theorem dX4_carryOut_16 : decode cX4_carryOut 16 = .ok (.iload_n 2, 1) := by decide +kernel
theorem dX4_carryOut_17 : decode cX4_carryOut 17 = .ok (.isub, 1) := by decide +kernel
theorem dX4_carryOut_18 : decode cX4_carryOut 18 = .ok (.ireturn, 1) := by decide +kernel
theorem dX4_carryOut_19 : decode cX4_carryOut 19 = .ok (.iconst 0, 1) := by decide +kernel
theorem dX4_carryOut_20 : decode cX4_carryOut 20 = .ok (.istore_n 3, 1) := by decide +kernel
theorem dX4_carryOut_21 : decode cX4_carryOut 21 = .ok (.iload_n 3, 1) := by decide +kernel
theorem dX4_carryOut_22 : decode cX4_carryOut 22 = .ok (.aload_n 0, 1) := by decide +kernel
theorem dX4_carryOut_23 : decode cX4_carryOut 23 = .ok (.getfield 25, 3) := by decide +kernel
theorem dX4_carryOut_26 : decode cX4_carryOut 26 = .ok (.if_icmp .ge 34, 3) := by decide +kernel
theorem dX4_carryOut_29 : decode cX4_carryOut 29 = .ok (.aload_n 1, 1) := by decide +kernel
theorem dX4_carryOut_30 : decode cX4_carryOut 30 = .ok (.aload_n 0, 1) := by decide +kernel
theorem dX4_carryOut_31 : decode cX4_carryOut 31 = .ok (.getfield 19, 3) := by decide +kernel
theorem dX4_carryOut_34 : decode cX4_carryOut 34 = .ok (.iload_n 3, 1) := by decide +kernel
theorem dX4_carryOut_35 : decode cX4_carryOut 35 = .ok (.iaload, 1) := by decide +kernel
theorem dX4_carryOut_36 : decode cX4_carryOut 36 = .ok (.aload_n 0, 1) := by decide +kernel
theorem dX4_carryOut_37 : decode cX4_carryOut 37 = .ok (.getfield 22, 3) := by decide +kernel
theorem dX4_carryOut_40 : decode cX4_carryOut 40 = .ok (.iload_n 3, 1) := by decide +kernel
theorem dX4_carryOut_41 : decode cX4_carryOut 41 = .ok (.iaload, 1) := by decide +kernel
theorem dX4_carryOut_42 : decode cX4_carryOut 42 = .ok (.invokestatic 56, 3) := by decide +kernel
theorem dX4_carryOut_45 : decode cX4_carryOut 45 = .ok (.ifCond .ge 9, 3) := by decide +kernel
theorem dX4_carryOut_48 : decode cX4_carryOut 48 = .ok (.sipush (-1000), 3) := by decide +kernel
theorem dX4_carryOut_51 : decode cX4_carryOut 51 = .ok (.iload_n 3, 1) := by decide +kernel
theorem dX4_carryOut_52 : decode cX4_carryOut 52 = .ok (.isub, 1) := by decide +kernel
theorem dX4_carryOut_53 : decode cX4_carryOut 53 = .ok (.ireturn, 1) := by decide +kernel
theorem dX4_carryOut_54 : decode cX4_carryOut 54 = .ok (.iinc 3 1, 3) := by decide +kernel
theorem dX4_carryOut_57 : decode cX4_carryOut 57 = .ok (.goto (-36), 3) := by decide +kernel
theorem dX4_carryOut_60 : decode cX4_carryOut 60 = .ok (.aload_n 0, 1) := by decide +kernel
theorem dX4_carryOut_61 : decode cX4_carryOut 61 = .ok (.getfield 25, 3) := by decide +kernel
theorem dX4_carryOut_64 : decode cX4_carryOut 64 = .ok (.ireturn, 1) := by decide +kernel
theorem dX4_obey_0 : decode cX4_obey 0 = .ok (.iload_n 1, 1) := by decide +kernel
theorem dX4_obey_1 : decode cX4_obey 1 = .ok (.lookupswitch 39 #[(109, 33), (110, 27)], 27) := by decide +kernel
theorem dX4_obey_28 : decode cX4_obey 28 = .ok (.aload_n 0, 1) := by decide +kernel
theorem dX4_obey_29 : decode cX4_obey 29 = .ok (.iload_n 2, 1) := by decide +kernel
theorem dX4_obey_30 : decode cX4_obey 30 = .ok (.invokevirtual 60, 3) := by decide +kernel
theorem dX4_obey_33 : decode cX4_obey 33 = .ok (.ireturn, 1) := by decide +kernel
theorem dX4_obey_34 : decode cX4_obey 34 = .ok (.aload_n 0, 1) := by decide +kernel
theorem dX4_obey_35 : decode cX4_obey 35 = .ok (.iload_n 2, 1) := by decide +kernel
theorem dX4_obey_36 : decode cX4_obey 36 = .ok (.invokevirtual 63, 3) := by decide +kernel
theorem dX4_obey_39 : decode cX4_obey 39 = .ok (.ireturn, 1) := by decide +kernel
theorem dX4_obey_40 : decode cX4_obey 40 = .ok (.aload_n 0, 1) := by decide +kernel
theorem dX4_obey_41 : decode cX4_obey 41 = .ok (.iload_n 2, 1) := by decide +kernel
theorem dX4_obey_42 : decode cX4_obey 42 = .ok (.invokevirtual 66, 3) := by decide +kernel
theorem dX4_obey_45 : decode cX4_obey 45 = .ok (.ireturn, 1) := by decide +kernel
theorem dX4_findFault_0 : decode cX4_findFault 0 = .ok (.aload_n 0, 1) := by decide +kernel
theorem dX4_findFault_1 : decode cX4_findFault 1 = .ok (.iconst 0, 1) := by decide +kernel
theorem dX4_findFault_2 : decode cX4_findFault 2 = .ok (.putfield 25, 3) := by decide +kernel
theorem dX4_findFault_5 : decode cX4_findFault 5 = .ok (.aload_n 0, 1) := by decide +kernel
theorem dX4_findFault_6 : decode cX4_findFault 6 = .ok (.iconst 0, 1) := by decide +kernel
theorem dX4_findFault_7 : decode cX4_findFault 7 = .ok (.putfield 28, 3) := by decide +kernel
theorem dX4_findFault_10 : decode cX4_findFault 10 = .ok (.aload_n 0, 1) := by decide +kernel
theorem dX4_findFault_11 : decode cX4_findFault 11 = .ok (.iload_n 1, 1) := by decide +kernel
theorem dX4_findFault_12 : decode cX4_findFault 12 = .ok (.putfield 40, 3) := by decide +kernel
theorem dX4_findFault_15 : decode cX4_findFault 15 = .ok (.iconst 0, 1) := by decide +kernel
theorem dX4_findFault_16 : decode cX4_findFault 16 = .ok (.istore_n 2, 1) := by decide +kernel
theorem dX4_findFault_17 : decode cX4_findFault 17 = .ok (.iload_n 2, 1) := by decide +kernel
theorem dX4_findFault_18 : decode cX4_findFault 18 = .ok (.aload_n 0, 1) := by decide +kernel
theorem dX4_findFault_19 : decode cX4_findFault 19 = .ok (.getfield 9, 3) := by decide +kernel
theorem dX4_findFault_22 : decode cX4_findFault 22 = .ok (.if_icmp .ge 32, 3) := by decide +kernel
theorem dX4_findFault_25 : decode cX4_findFault 25 = .ok (.aload_n 0, 1) := by decide +kernel
theorem dX4_findFault_26 : decode cX4_findFault 26 = .ok (.getfield 15, 3) := by decide +kernel
theorem dX4_findFault_29 : decode cX4_findFault 29 = .ok (.iload_n 2, 1) := by decide +kernel
theorem dX4_findFault_30 : decode cX4_findFault 30 = .ok (.iaload, 1) := by decide +kernel
theorem dX4_findFault_31 : decode cX4_findFault 31 = .ok (.istore_n 3, 1) := by decide +kernel
theorem dX4_findFault_32 : decode cX4_findFault 32 = .ok (.iload_n 3, 1) := by decide +kernel
theorem dX4_findFault_33 : decode cX4_findFault 33 = .ok (.bipush 32, 2) := by decide +kernel
theorem dX4_findFault_35 : decode cX4_findFault 35 = .ok (.if_icmp .eq 13, 3) := by decide +kernel
theorem dX4_findFault_38 : decode cX4_findFault 38 = .ok (.aload_n 0, 1) := by decide +kernel
theorem dX4_findFault_39 : decode cX4_findFault 39 = .ok (.iload_n 3, 1) := by decide +kernel
theorem dX4_findFault_40 : decode cX4_findFault 40 = .ok (.invokevirtual 69, 3) := by decide +kernel
theorem dX4_findFault_43 : decode cX4_findFault 43 = .ok (.ifCond .ne 5, 3) := by decide +kernel
theorem dX4_findFault_46 : decode cX4_findFault 46 = .ok (.iload_n 2, 1) := by decide +kernel
theorem dX4_findFault_47 : decode cX4_findFault 47 = .ok (.ireturn, 1) := by decide +kernel
theorem dX4_findFault_48 : decode cX4_findFault 48 = .ok (.iinc 2 1, 3) := by decide +kernel
theorem dX4_findFault_51 : decode cX4_findFault 51 = .ok (.goto (-34), 3) := by decide +kernel
theorem dX4_findFault_54 : decode cX4_findFault 54 = .ok (.aload_n 0, 1) := by decide +kernel
theorem dX4_findFault_55 : decode cX4_findFault 55 = .ok (.getfield 28, 3) := by decide +kernel
theorem dX4_findFault_58 : decode cX4_findFault 58 = .ok (.ifCond .ne 14, 3) := by decide +kernel
theorem dX4_findFault_61 : decode cX4_findFault 61 = .ok (.aload_n 0, 1) := by decide +kernel
theorem dX4_findFault_62 : decode cX4_findFault 62 = .ok (.getfield 25, 3) := by decide +kernel
theorem dX4_findFault_65 : decode cX4_findFault 65 = .ok (.ifCond .le 7, 3) := by decide +kernel
theorem dX4_findFault_68 : decode cX4_findFault 68 = .ok (.iconst (-1), 1) := by decide +kernel
theorem dX4_findFault_69 : decode cX4_findFault 69 = .ok (.goto 7, 3) := by decide +kernel
theorem dX4_findFault_72 : decode cX4_findFault 72 = .ok (.aload_n 0, 1) := by decide +kernel
theorem dX4_findFault_73 : decode cX4_findFault 73 = .ok (.getfield 9, 3) := by decide +kernel
theorem dX4_findFault_76 : decode cX4_findFault 76 = .ok (.ireturn, 1) := by decide +kernel
theorem dX4_takes_0 : decode cX4_takes 0 = .ok (.aload_n 0, 1) := by decide +kernel
theorem dX4_takes_1 : decode cX4_takes 1 = .ok (.getfield 28, 3) := by decide +kernel
theorem dX4_takes_4 : decode cX4_takes 4 = .ok (.ifCond .ne 9, 3) := by decide +kernel
theorem dX4_takes_7 : decode cX4_takes 7 = .ok (.aload_n 0, 1) := by decide +kernel
theorem dX4_takes_8 : decode cX4_takes 8 = .ok (.iload_n 1, 1) := by decide +kernel
theorem dX4_takes_9 : decode cX4_takes 9 = .ok (.invokevirtual 73, 3) := by decide +kernel
theorem dX4_takes_12 : decode cX4_takes 12 = .ok (.ireturn, 1) := by decide +kernel
theorem dX4_takes_13 : decode cX4_takes 13 = .ok (.aload_n 0, 1) := by decide +kernel
theorem dX4_takes_14 : decode cX4_takes 14 = .ok (.getfield 34, 3) := by decide +kernel
theorem dX4_takes_17 : decode cX4_takes 17 = .ok (.ifCond .le 14, 3) := by decide +kernel
theorem dX4_takes_20 : decode cX4_takes 20 = .ok (.aload_n 0, 1) := by decide +kernel
theorem dX4_takes_21 : decode cX4_takes 21 = .ok (.iload_n 1, 1) := by decide +kernel
theorem dX4_takes_22 : decode cX4_takes 22 = .ok (.bipush 48, 2) := by decide +kernel
theorem dX4_takes_24 : decode cX4_takes 24 = .ok (.isub, 1) := by decide +kernel
theorem dX4_takes_25 : decode cX4_takes 25 = .ok (.invokevirtual 76, 3) := by decide +kernel
theorem dX4_takes_28 : decode cX4_takes 28 = .ok (.goto 8, 3) := by decide +kernel
theorem dX4_takes_31 : decode cX4_takes 31 = .ok (.aload_n 0, 1) := by decide +kernel
theorem dX4_takes_32 : decode cX4_takes 32 = .ok (.iload_n 1, 1) := by decide +kernel
theorem dX4_takes_33 : decode cX4_takes 33 = .ok (.invokevirtual 79, 3) := by decide +kernel
theorem dX4_takes_36 : decode cX4_takes 36 = .ok (.ireturn, 1) := by decide +kernel
theorem dX4_opens_0 : decode cX4_opens 0 = .ok (.iload_n 1, 1) := by decide +kernel
theorem dX4_opens_1 : decode cX4_opens 1 = .ok (.bipush 110, 2) := by decide +kernel
theorem dX4_opens_3 : decode cX4_opens 3 = .ok (.if_icmp .eq 17, 3) := by decide +kernel
theorem dX4_opens_6 : decode cX4_opens 6 = .ok (.iload_n 1, 1) := by decide +kernel
theorem dX4_opens_7 : decode cX4_opens 7 = .ok (.bipush 109, 2) := by decide +kernel
theorem dX4_opens_9 : decode cX4_opens 9 = .ok (.if_icmp .eq 11, 3) := by decide +kernel
theorem dX4_opens_12 : decode cX4_opens 12 = .ok (.iload_n 1, 1) := by decide +kernel
theorem dX4_opens_13 : decode cX4_opens 13 = .ok (.bipush 120, 2) := by decide +kernel
theorem dX4_opens_15 : decode cX4_opens 15 = .ok (.if_icmp .eq 5, 3) := by decide +kernel
theorem dX4_opens_18 : decode cX4_opens 18 = .ok (.iconst 0, 1) := by decide +kernel
theorem dX4_opens_19 : decode cX4_opens 19 = .ok (.ireturn, 1) := by decide +kernel
theorem dX4_opens_20 : decode cX4_opens 20 = .ok (.aload_n 0, 1) := by decide +kernel
theorem dX4_opens_21 : decode cX4_opens 21 = .ok (.iload_n 1, 1) := by decide +kernel
theorem dX4_opens_22 : decode cX4_opens 22 = .ok (.putfield 28, 3) := by decide +kernel
theorem dX4_opens_25 : decode cX4_opens 25 = .ok (.aload_n 0, 1) := by decide +kernel
theorem dX4_opens_26 : decode cX4_opens 26 = .ok (.iconst 0, 1) := by decide +kernel
theorem dX4_opens_27 : decode cX4_opens 27 = .ok (.putfield 31, 3) := by decide +kernel
theorem dX4_opens_30 : decode cX4_opens 30 = .ok (.aload_n 0, 1) := by decide +kernel
theorem dX4_opens_31 : decode cX4_opens 31 = .ok (.iload_n 1, 1) := by decide +kernel
theorem dX4_opens_32 : decode cX4_opens 32 = .ok (.bipush 109, 2) := by decide +kernel
theorem dX4_opens_34 : decode cX4_opens 34 = .ok (.if_icmp .ne 10, 3) := by decide +kernel
theorem dX4_opens_37 : decode cX4_opens 37 = .ok (.aload_n 0, 1) := by decide +kernel
theorem dX4_opens_38 : decode cX4_opens 38 = .ok (.getfield 40, 3) := by decide +kernel
theorem dX4_opens_41 : decode cX4_opens 41 = .ok (.goto 4, 3) := by decide +kernel
theorem dX4_opens_44 : decode cX4_opens 44 = .ok (.iconst 1, 1) := by decide +kernel
theorem dX4_opens_45 : decode cX4_opens 45 = .ok (.putfield 34, 3) := by decide +kernel
theorem dX4_opens_48 : decode cX4_opens 48 = .ok (.aload_n 0, 1) := by decide +kernel
theorem dX4_opens_49 : decode cX4_opens 49 = .ok (.iconst 0, 1) := by decide +kernel
theorem dX4_opens_50 : decode cX4_opens 50 = .ok (.putfield 37, 3) := by decide +kernel
theorem dX4_opens_53 : decode cX4_opens 53 = .ok (.iconst 1, 1) := by decide +kernel
theorem dX4_opens_54 : decode cX4_opens 54 = .ok (.ireturn, 1) := by decide +kernel
theorem dX4_takesFigure_0 : decode cX4_takesFigure 0 = .ok (.iload_n 1, 1) := by decide +kernel
theorem dX4_takesFigure_1 : decode cX4_takesFigure 1 = .ok (.bipush 10, 2) := by decide +kernel
theorem dX4_takesFigure_3 : decode cX4_takesFigure 3 = .ok (.invokestatic 43, 3) := by decide +kernel
theorem dX4_takesFigure_6 : decode cX4_takesFigure 6 = .ok (.ifCond .ne 5, 3) := by decide +kernel
theorem dX4_takesFigure_9 : decode cX4_takesFigure 9 = .ok (.iconst 0, 1) := by decide +kernel
theorem dX4_takesFigure_10 : decode cX4_takesFigure 10 = .ok (.ireturn, 1) := by decide +kernel
theorem dX4_takesFigure_11 : decode cX4_takesFigure 11 = .ok (.aload_n 0, 1) := by decide +kernel
theorem dX4_takesFigure_12 : decode cX4_takesFigure 12 = .ok (.getfield 28, 3) := by decide +kernel
theorem dX4_takesFigure_15 : decode cX4_takesFigure 15 = .ok (.bipush 110, 2) := by decide +kernel
theorem dX4_takesFigure_17 : decode cX4_takesFigure 17 = .ok (.if_icmp .ne 15, 3) := by decide +kernel
theorem dX4_takesFigure_20 : decode cX4_takesFigure 20 = .ok (.iload_n 1, 1) := by decide +kernel
theorem dX4_takesFigure_21 : decode cX4_takesFigure 21 = .ok (.iconst 1, 1) := by decide +kernel
theorem dX4_takesFigure_22 : decode cX4_takesFigure 22 = .ok (.if_icmp .lt 8, 3) := by decide +kernel
theorem dX4_takesFigure_25 : decode cX4_takesFigure 25 = .ok (.iload_n 1, 1) := by decide +kernel
theorem dX4_takesFigure_26 : decode cX4_takesFigure 26 = .ok (.iconst 5, 1) := by decide +kernel
theorem dX4_takesFigure_27 : decode cX4_takesFigure 27 = .ok (.if_icmp .le 5, 3) := by decide +kernel
theorem dX4_takesFigure_30 : decode cX4_takesFigure 30 = .ok (.iconst 0, 1) := by decide +kernel
theorem dX4_takesFigure_31 : decode cX4_takesFigure 31 = .ok (.ireturn, 1) := by decide +kernel
theorem dX4_takesFigure_32 : decode cX4_takesFigure 32 = .ok (.aload_n 0, 1) := by decide +kernel
theorem dX4_takesFigure_33 : decode cX4_takesFigure 33 = .ok (.getfield 28, 3) := by decide +kernel
theorem dX4_takesFigure_36 : decode cX4_takesFigure 36 = .ok (.bipush 109, 2) := by decide +kernel
theorem dX4_takesFigure_38 : decode cX4_takesFigure 38 = .ok (.if_icmp .ne 24, 3) := by decide +kernel
theorem dX4_takesFigure_41 : decode cX4_takesFigure 41 = .ok (.iload_n 1, 1) := by decide +kernel
theorem dX4_takesFigure_42 : decode cX4_takesFigure 42 = .ok (.aload_n 0, 1) := by decide +kernel
theorem dX4_takesFigure_43 : decode cX4_takesFigure 43 = .ok (.getfield 40, 3) := by decide +kernel
theorem dX4_takesFigure_46 : decode cX4_takesFigure 46 = .ok (.if_icmp .ge 14, 3) := by decide +kernel
theorem dX4_takesFigure_49 : decode cX4_takesFigure 49 = .ok (.aload_n 0, 1) := by decide +kernel
theorem dX4_takesFigure_50 : decode cX4_takesFigure 50 = .ok (.getfield 37, 3) := by decide +kernel
theorem dX4_takesFigure_53 : decode cX4_takesFigure 53 = .ok (.iload_n 1, 1) := by decide +kernel
theorem dX4_takesFigure_54 : decode cX4_takesFigure 54 = .ok (.ishr, 1) := by decide +kernel
theorem dX4_takesFigure_55 : decode cX4_takesFigure 55 = .ok (.iconst 1, 1) := by decide +kernel
theorem dX4_takesFigure_56 : decode cX4_takesFigure 56 = .ok (.iand, 1) := by decide +kernel
theorem dX4_takesFigure_57 : decode cX4_takesFigure 57 = .ok (.ifCond .eq 5, 3) := by decide +kernel
theorem dX4_takesFigure_60 : decode cX4_takesFigure 60 = .ok (.iconst 0, 1) := by decide +kernel
theorem dX4_takesFigure_61 : decode cX4_takesFigure 61 = .ok (.ireturn, 1) := by decide +kernel
theorem dX4_takesFigure_62 : decode cX4_takesFigure 62 = .ok (.aload_n 0, 1) := by decide +kernel
theorem dX4_takesFigure_63 : decode cX4_takesFigure 63 = .ok (.dup, 1) := by decide +kernel
theorem dX4_takesFigure_64 : decode cX4_takesFigure 64 = .ok (.getfield 37, 3) := by decide +kernel
theorem dX4_takesFigure_67 : decode cX4_takesFigure 67 = .ok (.iconst 1, 1) := by decide +kernel
theorem dX4_takesFigure_68 : decode cX4_takesFigure 68 = .ok (.iload_n 1, 1) := by decide +kernel
theorem dX4_takesFigure_69 : decode cX4_takesFigure 69 = .ok (.ishl, 1) := by decide +kernel
theorem dX4_takesFigure_70 : decode cX4_takesFigure 70 = .ok (.ior, 1) := by decide +kernel
theorem dX4_takesFigure_71 : decode cX4_takesFigure 71 = .ok (.putfield 37, 3) := by decide +kernel
theorem dX4_takesFigure_74 : decode cX4_takesFigure 74 = .ok (.aload_n 0, 1) := by decide +kernel
theorem dX4_takesFigure_75 : decode cX4_takesFigure 75 = .ok (.bipush 10, 2) := by decide +kernel
theorem dX4_takesFigure_77 : decode cX4_takesFigure 77 = .ok (.aload_n 0, 1) := by decide +kernel
theorem dX4_takesFigure_78 : decode cX4_takesFigure 78 = .ok (.getfield 31, 3) := by decide +kernel
theorem dX4_takesFigure_81 : decode cX4_takesFigure 81 = .ok (.imul, 1) := by decide +kernel
theorem dX4_takesFigure_82 : decode cX4_takesFigure 82 = .ok (.iload_n 1, 1) := by decide +kernel
theorem dX4_takesFigure_83 : decode cX4_takesFigure 83 = .ok (.iadd, 1) := by decide +kernel
theorem dX4_takesFigure_84 : decode cX4_takesFigure 84 = .ok (.putfield 31, 3) := by decide +kernel
theorem dX4_takesFigure_87 : decode cX4_takesFigure 87 = .ok (.aload_n 0, 1) := by decide +kernel
theorem dX4_takesFigure_88 : decode cX4_takesFigure 88 = .ok (.dup, 1) := by decide +kernel
theorem dX4_takesFigure_89 : decode cX4_takesFigure 89 = .ok (.getfield 34, 3) := by decide +kernel
theorem dX4_takesFigure_92 : decode cX4_takesFigure 92 = .ok (.iconst 1, 1) := by decide +kernel
theorem dX4_takesFigure_93 : decode cX4_takesFigure 93 = .ok (.isub, 1) := by decide +kernel
theorem dX4_takesFigure_94 : decode cX4_takesFigure 94 = .ok (.putfield 34, 3) := by decide +kernel
theorem dX4_takesFigure_97 : decode cX4_takesFigure 97 = .ok (.iconst 1, 1) := by decide +kernel
theorem dX4_takesFigure_98 : decode cX4_takesFigure 98 = .ok (.ireturn, 1) := by decide +kernel
theorem dX4_closes_0 : decode cX4_closes 0 = .ok (.iload_n 1, 1) := by decide +kernel
theorem dX4_closes_1 : decode cX4_closes 1 = .ok (.bipush 59, 2) := by decide +kernel
theorem dX4_closes_3 : decode cX4_closes 3 = .ok (.if_icmp .ne 12, 3) := by decide +kernel
theorem dX4_closes_6 : decode cX4_closes 6 = .ok (.aload_n 0, 1) := by decide +kernel
theorem dX4_closes_7 : decode cX4_closes 7 = .ok (.getfield 25, 3) := by decide +kernel
theorem dX4_closes_10 : decode cX4_closes 10 = .ok (.bipush 27, 2) := by decide +kernel
theorem dX4_closes_12 : decode cX4_closes 12 = .ok (.if_icmp .lt 5, 3) := by decide +kernel
theorem dX4_closes_15 : decode cX4_closes 15 = .ok (.iconst 0, 1) := by decide +kernel
theorem dX4_closes_16 : decode cX4_closes 16 = .ok (.ireturn, 1) := by decide +kernel
theorem dX4_closes_17 : decode cX4_closes 17 = .ok (.aload_n 0, 1) := by decide +kernel
theorem dX4_closes_18 : decode cX4_closes 18 = .ok (.getfield 19, 3) := by decide +kernel
theorem dX4_closes_21 : decode cX4_closes 21 = .ok (.aload_n 0, 1) := by decide +kernel
theorem dX4_closes_22 : decode cX4_closes 22 = .ok (.getfield 25, 3) := by decide +kernel
theorem dX4_closes_25 : decode cX4_closes 25 = .ok (.aload_n 0, 1) := by decide +kernel
theorem dX4_closes_26 : decode cX4_closes 26 = .ok (.getfield 28, 3) := by decide +kernel
theorem dX4_closes_29 : decode cX4_closes 29 = .ok (.iastore, 1) := by decide +kernel
theorem dX4_closes_30 : decode cX4_closes 30 = .ok (.aload_n 0, 1) := by decide +kernel
theorem dX4_closes_31 : decode cX4_closes 31 = .ok (.getfield 22, 3) := by decide +kernel
theorem dX4_closes_34 : decode cX4_closes 34 = .ok (.aload_n 0, 1) := by decide +kernel
theorem dX4_closes_35 : decode cX4_closes 35 = .ok (.getfield 25, 3) := by decide +kernel
theorem dX4_closes_38 : decode cX4_closes 38 = .ok (.aload_n 0, 1) := by decide +kernel
theorem dX4_closes_39 : decode cX4_closes 39 = .ok (.getfield 31, 3) := by decide +kernel
theorem dX4_closes_42 : decode cX4_closes 42 = .ok (.iastore, 1) := by decide +kernel
theorem dX4_closes_43 : decode cX4_closes 43 = .ok (.aload_n 0, 1) := by decide +kernel
theorem dX4_closes_44 : decode cX4_closes 44 = .ok (.dup, 1) := by decide +kernel
theorem dX4_closes_45 : decode cX4_closes 45 = .ok (.getfield 25, 3) := by decide +kernel
theorem dX4_closes_48 : decode cX4_closes 48 = .ok (.iconst 1, 1) := by decide +kernel
theorem dX4_closes_49 : decode cX4_closes 49 = .ok (.iadd, 1) := by decide +kernel
theorem dX4_closes_50 : decode cX4_closes 50 = .ok (.putfield 25, 3) := by decide +kernel
theorem dX4_closes_53 : decode cX4_closes 53 = .ok (.aload_n 0, 1) := by decide +kernel
theorem dX4_closes_54 : decode cX4_closes 54 = .ok (.getfield 28, 3) := by decide +kernel
theorem dX4_closes_57 : decode cX4_closes 57 = .ok (.bipush 110, 2) := by decide +kernel
theorem dX4_closes_59 : decode cX4_closes 59 = .ok (.if_icmp .ne 11, 3) := by decide +kernel
theorem dX4_closes_62 : decode cX4_closes 62 = .ok (.aload_n 0, 1) := by decide +kernel
theorem dX4_closes_63 : decode cX4_closes 63 = .ok (.aload_n 0, 1) := by decide +kernel
theorem dX4_closes_64 : decode cX4_closes 64 = .ok (.getfield 31, 3) := by decide +kernel
theorem dX4_closes_67 : decode cX4_closes 67 = .ok (.putfield 40, 3) := by decide +kernel
theorem dX4_closes_70 : decode cX4_closes 70 = .ok (.aload_n 0, 1) := by decide +kernel
theorem dX4_closes_71 : decode cX4_closes 71 = .ok (.iconst 0, 1) := by decide +kernel
theorem dX4_closes_72 : decode cX4_closes 72 = .ok (.putfield 28, 3) := by decide +kernel
theorem dX4_closes_75 : decode cX4_closes 75 = .ok (.iconst 1, 1) := by decide +kernel
theorem dX4_closes_76 : decode cX4_closes 76 = .ok (.ireturn, 1) := by decide +kernel
