theorem dX5_init_0 : decode cX5_init 0 = .ok (.aload_n 0, 1) := by decide +kernel
theorem dX5_init_1 : decode cX5_init 1 = .ok (.invokespecial 3, 3) := by decide +kernel
theorem dX5_init_4 : decode cX5_init 4 = .ok (.aload_n 0, 1) := by decide +kernel
theorem dX5_init_5 : decode cX5_init 5 = .ok (.iconst 4, 1) := by decide +kernel
theorem dX5_init_6 : decode cX5_init 6 = .ok (.putfield 9, 3) := by decide +kernel
theorem dX5_init_9 : decode cX5_init 9 = .ok (.aload_n 0, 1) := by decide +kernel
theorem dX5_init_10 : decode cX5_init 10 = .ok (.iconst 0, 1) := by decide +kernel
theorem dX5_init_11 : decode cX5_init 11 = .ok (.putfield 15, 3) := by decide +kernel
theorem dX5_init_14 : decode cX5_init 14 = .ok (.aload_n 0, 1) := by decide +kernel
theorem dX5_init_15 : decode cX5_init 15 = .ok (.iconst 3, 1) := by decide +kernel
theorem dX5_init_16 : decode cX5_init 16 = .ok (.newarray .int, 2) := by decide +kernel
theorem dX5_init_18 : decode cX5_init 18 = .ok (.putfield 18, 3) := by decide +kernel
theorem dX5_init_21 : decode cX5_init 21 = .ok (.return_, 1) := by decide +kernel
theorem dX5_copyFrom_0 : decode cX5_copyFrom 0 = .ok (.aload_n 0, 1) := by decide +kernel
theorem dX5_copyFrom_1 : decode cX5_copyFrom 1 = .ok (.aload_n 1, 1) := by decide +kernel
theorem dX5_copyFrom_2 : decode cX5_copyFrom 2 = .ok (.getfield 9, 3) := by decide +kernel
theorem dX5_copyFrom_5 : decode cX5_copyFrom 5 = .ok (.putfield 9, 3) := by decide +kernel
theorem dX5_copyFrom_8 : decode cX5_copyFrom 8 = .ok (.aload_n 0, 1) := by decide +kernel
theorem dX5_copyFrom_9 : decode cX5_copyFrom 9 = .ok (.aload_n 1, 1) := by decide +kernel
theorem dX5_copyFrom_10 : decode cX5_copyFrom 10 = .ok (.getfield 15, 3) := by decide +kernel
theorem dX5_copyFrom_13 : decode cX5_copyFrom 13 = .ok (.putfield 15, 3) := by decide +kernel
theorem dX5_copyFrom_16 : decode cX5_copyFrom 16 = .ok (.iconst 0, 1) := by decide +kernel
theorem dX5_copyFrom_17 : decode cX5_copyFrom 17 = .ok (.istore_n 2, 1) := by decide +kernel
theorem dX5_copyFrom_18 : decode cX5_copyFrom 18 = .ok (.iload_n 2, 1) := by decide +kernel
theorem dX5_copyFrom_19 : decode cX5_copyFrom 19 = .ok (.iconst 3, 1) := by decide +kernel
theorem dX5_copyFrom_20 : decode cX5_copyFrom 20 = .ok (.if_icmp .ge 21, 3) := by decide +kernel
theorem dX5_copyFrom_23 : decode cX5_copyFrom 23 = .ok (.aload_n 0, 1) := by decide +kernel
theorem dX5_copyFrom_24 : decode cX5_copyFrom 24 = .ok (.getfield 18, 3) := by decide +kernel
theorem dX5_copyFrom_27 : decode cX5_copyFrom 27 = .ok (.iload_n 2, 1) := by decide +kernel
theorem dX5_copyFrom_28 : decode cX5_copyFrom 28 = .ok (.aload_n 1, 1) := by decide +kernel
theorem dX5_copyFrom_29 : decode cX5_copyFrom 29 = .ok (.getfield 18, 3) := by decide +kernel
theorem dX5_copyFrom_32 : decode cX5_copyFrom 32 = .ok (.iload_n 2, 1) := by decide +kernel
theorem dX5_copyFrom_33 : decode cX5_copyFrom 33 = .ok (.iaload, 1) := by decide +kernel
theorem dX5_copyFrom_34 : decode cX5_copyFrom 34 = .ok (.iastore, 1) := by decide +kernel
theorem dX5_copyFrom_35 : decode cX5_copyFrom 35 = .ok (.iinc 2 1, 3) := by decide +kernel
theorem dX5_copyFrom_38 : decode cX5_copyFrom 38 = .ok (.goto (-20), 3) := by decide +kernel
theorem dX5_copyFrom_41 : decode cX5_copyFrom 41 = .ok (.return_, 1) := by decide +kernel
theorem dX5_setPoints_0 : decode cX5_setPoints 0 = .ok (.iload_n 1, 1) := by decide +kernel
theorem dX5_setPoints_1 : decode cX5_setPoints 1 = .ok (.iconst 1, 1) := by decide +kernel
theorem dX5_setPoints_2 : decode cX5_setPoints 2 = .ok (.if_icmp .lt 8, 3) := by decide +kernel
theorem dX5_setPoints_5 : decode cX5_setPoints 5 = .ok (.iload_n 1, 1) := by decide +kernel
theorem dX5_setPoints_6 : decode cX5_setPoints 6 = .ok (.iconst 5, 1) := by decide +kernel
theorem dX5_setPoints_7 : decode cX5_setPoints 7 = .ok (.if_icmp .le 6, 3) := by decide +kernel
theorem dX5_setPoints_10 : decode cX5_setPoints 10 = .ok (.bipush (-2), 2) := by decide +kernel
theorem dX5_setPoints_12 : decode cX5_setPoints 12 = .ok (.ireturn, 1) := by decide +kernel
theorem dX5_setPoints_13 : decode cX5_setPoints 13 = .ok (.aload_n 0, 1) := by decide +kernel
theorem dX5_setPoints_14 : decode cX5_setPoints 14 = .ok (.getfield 9, 3) := by decide +kernel
theorem dX5_setPoints_17 : decode cX5_setPoints 17 = .ok (.istore_n 2, 1) := by decide +kernel
theorem dX5_setPoints_18 : decode cX5_setPoints 18 = .ok (.aload_n 0, 1) := by decide +kernel
theorem dX5_setPoints_19 : decode cX5_setPoints 19 = .ok (.iload_n 1, 1) := by decide +kernel
theorem dX5_setPoints_20 : decode cX5_setPoints 20 = .ok (.putfield 9, 3) := by decide +kernel
theorem dX5_setPoints_23 : decode cX5_setPoints 23 = .ok (.aload_n 0, 1) := by decide +kernel
theorem dX5_setPoints_24 : decode cX5_setPoints 24 = .ok (.iconst 0, 1) := by decide +kernel
theorem dX5_setPoints_25 : decode cX5_setPoints 25 = .ok (.putfield 15, 3) := by decide +kernel
theorem dX5_setPoints_28 : decode cX5_setPoints 28 = .ok (.iload_n 2, 1) := by decide +kernel
theorem dX5_setPoints_29 : decode cX5_setPoints 29 = .ok (.ireturn, 1) := by decide +kernel
theorem dX5_addGenerator_0 : decode cX5_addGenerator 0 = .ok (.aload_n 0, 1) := by decide +kernel
theorem dX5_addGenerator_1 : decode cX5_addGenerator 1 = .ok (.iload_n 1, 1) := by decide +kernel
theorem dX5_addGenerator_2 : decode cX5_addGenerator 2 = .ok (.invokevirtual 22, 3) := by decide +kernel
theorem dX5_addGenerator_5 : decode cX5_addGenerator 5 = .ok (.ifCond .ne 6, 3) := by decide +kernel
theorem dX5_addGenerator_8 : decode cX5_addGenerator 8 = .ok (.bipush (-2), 2) := by decide +kernel
theorem dX5_addGenerator_10 : decode cX5_addGenerator 10 = .ok (.ireturn, 1) := by decide +kernel
theorem dX5_addGenerator_11 : decode cX5_addGenerator 11 = .ok (.aload_n 0, 1) := by decide +kernel
theorem dX5_addGenerator_12 : decode cX5_addGenerator 12 = .ok (.getfield 15, 3) := by decide +kernel
theorem dX5_addGenerator_15 : decode cX5_addGenerator 15 = .ok (.iconst 3, 1) := by decide +kernel
theorem dX5_addGenerator_16 : decode cX5_addGenerator 16 = .ok (.if_icmp .lt 6, 3) := by decide +kernel
theorem dX5_addGenerator_19 : decode cX5_addGenerator 19 = .ok (.bipush (-4), 2) := by decide +kernel
theorem dX5_addGenerator_21 : decode cX5_addGenerator 21 = .ok (.ireturn, 1) := by decide +kernel
theorem dX5_addGenerator_22 : decode cX5_addGenerator 22 = .ok (.aload_n 0, 1) := by decide +kernel
theorem dX5_addGenerator_23 : decode cX5_addGenerator 23 = .ok (.getfield 18, 3) := by decide +kernel
theorem dX5_addGenerator_26 : decode cX5_addGenerator 26 = .ok (.aload_n 0, 1) := by decide +kernel
theorem dX5_addGenerator_27 : decode cX5_addGenerator 27 = .ok (.getfield 15, 3) := by decide +kernel
theorem dX5_addGenerator_30 : decode cX5_addGenerator 30 = .ok (.iload_n 1, 1) := by decide +kernel
theorem dX5_addGenerator_31 : decode cX5_addGenerator 31 = .ok (.iastore, 1) := by decide +kernel
theorem dX5_addGenerator_32 : decode cX5_addGenerator 32 = .ok (.aload_n 0, 1) := by decide +kernel
theorem dX5_addGenerator_33 : decode cX5_addGenerator 33 = .ok (.dup, 1) := by decide +kernel
theorem dX5_addGenerator_34 : decode cX5_addGenerator 34 = .ok (.getfield 15, 3) := by decide +kernel
theorem dX5_addGenerator_37 : decode cX5_addGenerator 37 = .ok (.iconst 1, 1) := by decide +kernel
theorem dX5_addGenerator_38 : decode cX5_addGenerator 38 = .ok (.iadd, 1) := by decide +kernel
theorem dX5_addGenerator_39 : decode cX5_addGenerator 39 = .ok (.putfield 15, 3) := by decide +kernel
theorem dX5_addGenerator_42 : decode cX5_addGenerator 42 = .ok (.aload_n 0, 1) := by decide +kernel
theorem dX5_addGenerator_43 : decode cX5_addGenerator 43 = .ok (.getfield 15, 3) := by decide +kernel
theorem dX5_addGenerator_46 : decode cX5_addGenerator 46 = .ok (.iconst 1, 1) := by decide +kernel
theorem dX5_addGenerator_47 : decode cX5_addGenerator 47 = .ok (.isub, 1) := by decide +kernel
theorem dX5_addGenerator_48 : decode cX5_addGenerator 48 = .ok (.ireturn, 1) := by decide +kernel
theorem dX5_dropGenerator_0 : decode cX5_dropGenerator 0 = .ok (.iload_n 1, 1) := by decide +kernel
theorem dX5_dropGenerator_1 : decode cX5_dropGenerator 1 = .ok (.aload_n 0, 1) := by decide +kernel
theorem dX5_dropGenerator_2 : decode cX5_dropGenerator 2 = .ok (.getfield 15, 3) := by decide +kernel
theorem dX5_dropGenerator_5 : decode cX5_dropGenerator 5 = .ok (.invokestatic 26, 3) := by decide +kernel
theorem dX5_dropGenerator_8 : decode cX5_dropGenerator 8 = .ok (.ifCond .ne 6, 3) := by decide +kernel
theorem dX5_dropGenerator_11 : decode cX5_dropGenerator 11 = .ok (.bipush (-2), 2) := by decide +kernel
theorem dX5_dropGenerator_13 : decode cX5_dropGenerator 13 = .ok (.ireturn, 1) := by decide +kernel
theorem dX5_dropGenerator_14 : decode cX5_dropGenerator 14 = .ok (.iload_n 1, 1) := by decide +kernel
theorem dX5_dropGenerator_15 : decode cX5_dropGenerator 15 = .ok (.iconst 1, 1) := by decide +kernel
theorem dX5_dropGenerator_16 : decode cX5_dropGenerator 16 = .ok (.iadd, 1) := by decide +kernel
theorem dX5_dropGenerator_17 : decode cX5_dropGenerator 17 = .ok (.istore_n 2, 1) := by decide +kernel
theorem dX5_dropGenerator_18 : decode cX5_dropGenerator 18 = .ok (.iload_n 2, 1) := by decide +kernel
theorem dX5_dropGenerator_19 : decode cX5_dropGenerator 19 = .ok (.aload_n 0, 1) := by decide +kernel
theorem dX5_dropGenerator_20 : decode cX5_dropGenerator 20 = .ok (.getfield 15, 3) := by decide +kernel
theorem dX5_dropGenerator_23 : decode cX5_dropGenerator 23 = .ok (.if_icmp .ge 23, 3) := by decide +kernel
theorem dX5_dropGenerator_26 : decode cX5_dropGenerator 26 = .ok (.aload_n 0, 1) := by decide +kernel
theorem dX5_dropGenerator_27 : decode cX5_dropGenerator 27 = .ok (.getfield 18, 3) := by decide +kernel
theorem dX5_dropGenerator_30 : decode cX5_dropGenerator 30 = .ok (.iload_n 2, 1) := by decide +kernel
theorem dX5_dropGenerator_31 : decode cX5_dropGenerator 31 = .ok (.iconst 1, 1) := by decide +kernel
theorem dX5_dropGenerator_32 : decode cX5_dropGenerator 32 = .ok (.isub, 1) := by decide +kernel
theorem dX5_dropGenerator_33 : decode cX5_dropGenerator 33 = .ok (.aload_n 0, 1) := by decide +kernel
theorem dX5_dropGenerator_34 : decode cX5_dropGenerator 34 = .ok (.getfield 18, 3) := by decide +kernel
theorem dX5_dropGenerator_37 : decode cX5_dropGenerator 37 = .ok (.iload_n 2, 1) := by decide +kernel
theorem dX5_dropGenerator_38 : decode cX5_dropGenerator 38 = .ok (.iaload, 1) := by decide +kernel
theorem dX5_dropGenerator_39 : decode cX5_dropGenerator 39 = .ok (.iastore, 1) := by decide +kernel
theorem dX5_dropGenerator_40 : decode cX5_dropGenerator 40 = .ok (.iinc 2 1, 3) := by decide +kernel
theorem dX5_dropGenerator_43 : decode cX5_dropGenerator 43 = .ok (.goto (-25), 3) := by decide +kernel
theorem dX5_dropGenerator_46 : decode cX5_dropGenerator 46 = .ok (.aload_n 0, 1) := by decide +kernel
theorem dX5_dropGenerator_47 : decode cX5_dropGenerator 47 = .ok (.dup, 1) := by decide +kernel
theorem dX5_dropGenerator_48 : decode cX5_dropGenerator 48 = .ok (.getfield 15, 3) := by decide +kernel
theorem dX5_dropGenerator_51 : decode cX5_dropGenerator 51 = .ok (.iconst 1, 1) := by decide +kernel
theorem dX5_dropGenerator_52 : decode cX5_dropGenerator 52 = .ok (.isub, 1) := by decide +kernel
theorem dX5_dropGenerator_53 : decode cX5_dropGenerator 53 = .ok (.putfield 15, 3) := by decide +kernel
theorem dX5_dropGenerator_56 : decode cX5_dropGenerator 56 = .ok (.aload_n 0, 1) := by decide +kernel
theorem dX5_dropGenerator_57 : decode cX5_dropGenerator 57 = .ok (.getfield 15, 3) := by decide +kernel
theorem dX5_dropGenerator_60 : decode cX5_dropGenerator 60 = .ok (.ireturn, 1) := by decide +kernel
theorem dX5_isMove_0 : decode cX5_isMove 0 = .ok (.iload_n 1, 1) := by decide +kernel
theorem dX5_isMove_1 : decode cX5_isMove 1 = .ok (.ifCond .ge 5, 3) := by decide +kernel
theorem dX5_isMove_4 : decode cX5_isMove 4 = .ok (.iconst 0, 1) := by decide +kernel
theorem dX5_isMove_5 : decode cX5_isMove 5 = .ok (.ireturn, 1) := by decide +kernel
theorem dX5_isMove_6 : decode cX5_isMove 6 = .ok (.iload_n 1, 1) := by decide +kernel
theorem dX5_isMove_7 : decode cX5_isMove 7 = .ok (.istore_n 2, 1) := by decide +kernel
theorem dX5_isMove_8 : decode cX5_isMove 8 = .ok (.iconst 0, 1) := by decide +kernel
theorem dX5_isMove_9 : decode cX5_isMove 9 = .ok (.istore_n 3, 1) := by decide +kernel
theorem dX5_isMove_10 : decode cX5_isMove 10 = .ok (.iconst 0, 1) := by decide +kernel
theorem dX5_isMove_11 : decode cX5_isMove 11 = .ok (.istore 4, 2) := by decide +kernel
theorem dX5_isMove_13 : decode cX5_isMove 13 = .ok (.iload 4, 2) := by decide +kernel
theorem dX5_isMove_15 : decode cX5_isMove 15 = .ok (.aload_n 0, 1) := by decide +kernel
theorem dX5_isMove_16 : decode cX5_isMove 16 = .ok (.getfield 9, 3) := by decide +kernel
theorem dX5_isMove_19 : decode cX5_isMove 19 = .ok (.if_icmp .ge 47, 3) := by decide +kernel
theorem dX5_isMove_22 : decode cX5_isMove 22 = .ok (.iload_n 2, 1) := by decide +kernel
theorem dX5_isMove_23 : decode cX5_isMove 23 = .ok (.bipush 10, 2) := by decide +kernel
theorem dX5_isMove_25 : decode cX5_isMove 25 = .ok (.irem, 1) := by decide +kernel
theorem dX5_isMove_26 : decode cX5_isMove 26 = .ok (.istore 5, 2) := by decide +kernel
theorem dX5_isMove_28 : decode cX5_isMove 28 = .ok (.iload 5, 2) := by decide +kernel
theorem dX5_isMove_30 : decode cX5_isMove 30 = .ok (.aload_n 0, 1) := by decide +kernel
theorem dX5_isMove_31 : decode cX5_isMove 31 = .ok (.getfield 9, 3) := by decide +kernel
theorem dX5_isMove_34 : decode cX5_isMove 34 = .ok (.if_icmp .ge 12, 3) := by decide +kernel
theorem dX5_isMove_37 : decode cX5_isMove 37 = .ok (.iload_n 3, 1) := by decide +kernel
theorem dX5_isMove_38 : decode cX5_isMove 38 = .ok (.iload 5, 2) := by decide +kernel
theorem dX5_isMove_40 : decode cX5_isMove 40 = .ok (.ishr, 1) := by decide +kernel
theorem dX5_isMove_41 : decode cX5_isMove 41 = .ok (.iconst 1, 1) := by decide +kernel
theorem dX5_isMove_42 : decode cX5_isMove 42 = .ok (.iand, 1) := by decide +kernel
theorem dX5_isMove_43 : decode cX5_isMove 43 = .ok (.ifCond .eq 5, 3) := by decide +kernel
theorem dX5_isMove_46 : decode cX5_isMove 46 = .ok (.iconst 0, 1) := by decide +kernel
theorem dX5_isMove_47 : decode cX5_isMove 47 = .ok (.ireturn, 1) := by decide +kernel
theorem dX5_isMove_48 : decode cX5_isMove 48 = .ok (.iload_n 3, 1) := by decide +kernel
theorem dX5_isMove_49 : decode cX5_isMove 49 = .ok (.iconst 1, 1) := by decide +kernel
theorem dX5_isMove_50 : decode cX5_isMove 50 = .ok (.iload 5, 2) := by decide +kernel
theorem dX5_isMove_52 : decode cX5_isMove 52 = .ok (.ishl, 1) := by decide +kernel
theorem dX5_isMove_53 : decode cX5_isMove 53 = .ok (.ior, 1) := by decide +kernel
theorem dX5_isMove_54 : decode cX5_isMove 54 = .ok (.istore_n 3, 1) := by decide +kernel
theorem dX5_isMove_55 : decode cX5_isMove 55 = .ok (.iload_n 2, 1) := by decide +kernel
theorem dX5_isMove_56 : decode cX5_isMove 56 = .ok (.bipush 10, 2) := by decide +kernel
theorem dX5_isMove_58 : decode cX5_isMove 58 = .ok (.idiv, 1) := by decide +kernel
theorem dX5_isMove_59 : decode cX5_isMove 59 = .ok (.istore_n 2, 1) := by decide +kernel
theorem dX5_isMove_60 : decode cX5_isMove 60 = .ok (.iinc 4 1, 3) := by decide +kernel
theorem dX5_isMove_63 : decode cX5_isMove 63 = .ok (.goto (-50), 3) := by decide +kernel
theorem dX5_isMove_66 : decode cX5_isMove 66 = .ok (.iload_n 2, 1) := by decide +kernel
theorem dX5_isMove_67 : decode cX5_isMove 67 = .ok (.ifCond .ne 7, 3) := by decide +kernel
theorem dX5_isMove_70 : decode cX5_isMove 70 = .ok (.iconst 1, 1) := by decide +kernel
theorem dX5_isMove_71 : decode cX5_isMove 71 = .ok (.goto 4, 3) := by decide +kernel
theorem dX5_isMove_74 : decode cX5_isMove 74 = .ok (.iconst 0, 1) := by decide +kernel
theorem dX5_isMove_75 : decode cX5_isMove 75 = .ok (.ireturn, 1) := by decide +kernel
