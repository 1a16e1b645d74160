theorem dX0_init_0 : decode cX0_init 0 = .ok (.aload_n 0, 1) := by decide +kernel
theorem dX0_init_1 : decode cX0_init 1 = .ok (.invokespecial 1, 3) := by decide +kernel
theorem dX0_init_4 : decode cX0_init 4 = .ok (.aload_n 0, 1) := by decide +kernel
theorem dX0_init_5 : decode cX0_init 5 = .ok (.new 7, 3) := by decide +kernel
theorem dX0_init_8 : decode cX0_init 8 = .ok (.dup, 1) := by decide +kernel
theorem dX0_init_9 : decode cX0_init 9 = .ok (.iload_n 1, 1) := by decide +kernel
theorem dX0_init_10 : decode cX0_init 10 = .ok (.invokespecial 9, 3) := by decide +kernel
theorem dX0_init_13 : decode cX0_init 13 = .ok (.putfield 12, 3) := by decide +kernel
theorem dX0_init_16 : decode cX0_init 16 = .ok (.aload_n 0, 1) := by decide +kernel
theorem dX0_init_17 : decode cX0_init 17 = .ok (.new 7, 3) := by decide +kernel
theorem dX0_init_20 : decode cX0_init 20 = .ok (.dup, 1) := by decide +kernel
theorem dX0_init_21 : decode cX0_init 21 = .ok (.iload_n 1, 1) := by decide +kernel
theorem dX0_init_22 : decode cX0_init 22 = .ok (.invokespecial 9, 3) := by decide +kernel
theorem dX0_init_25 : decode cX0_init 25 = .ok (.putfield 18, 3) := by decide +kernel
theorem dX0_init_28 : decode cX0_init 28 = .ok (.aload_n 0, 1) := by decide +kernel
theorem dX0_init_29 : decode cX0_init 29 = .ok (.new 7, 3) := by decide +kernel
theorem dX0_init_32 : decode cX0_init 32 = .ok (.dup, 1) := by decide +kernel
theorem dX0_init_33 : decode cX0_init 33 = .ok (.iload_n 1, 1) := by decide +kernel
theorem dX0_init_34 : decode cX0_init 34 = .ok (.invokespecial 9, 3) := by decide +kernel
theorem dX0_init_37 : decode cX0_init 37 = .ok (.putfield 21, 3) := by decide +kernel
theorem dX0_init_40 : decode cX0_init 40 = .ok (.aload_n 0, 1) := by decide +kernel
theorem dX0_init_41 : decode cX0_init 41 = .ok (.new 7, 3) := by decide +kernel
theorem dX0_init_44 : decode cX0_init 44 = .ok (.dup, 1) := by decide +kernel
theorem dX0_init_45 : decode cX0_init 45 = .ok (.iload_n 1, 1) := by decide +kernel
theorem dX0_init_46 : decode cX0_init 46 = .ok (.invokespecial 9, 3) := by decide +kernel
theorem dX0_init_49 : decode cX0_init 49 = .ok (.putfield 24, 3) := by decide +kernel
theorem dX0_init_52 : decode cX0_init 52 = .ok (.return_, 1) := by decide +kernel
theorem dX0_put_0 : decode cX0_put 0 = .ok (.aload_n 0, 1) := by decide +kernel
theorem dX0_put_1 : decode cX0_put 1 = .ok (.getfield 12, 3) := by decide +kernel
theorem dX0_put_4 : decode cX0_put 4 = .ok (.iload_n 1, 1) := by decide +kernel
theorem dX0_put_5 : decode cX0_put 5 = .ok (.iload_n 2, 1) := by decide +kernel
theorem dX0_put_6 : decode cX0_put 6 = .ok (.invokevirtual 27, 3) := by decide +kernel
theorem dX0_put_9 : decode cX0_put 9 = .ok (.aload_n 0, 1) := by decide +kernel
theorem dX0_put_10 : decode cX0_put 10 = .ok (.getfield 18, 3) := by decide +kernel
theorem dX0_put_13 : decode cX0_put 13 = .ok (.iload_n 1, 1) := by decide +kernel
theorem dX0_put_14 : decode cX0_put 14 = .ok (.iload_n 3, 1) := by decide +kernel
theorem dX0_put_15 : decode cX0_put 15 = .ok (.invokevirtual 27, 3) := by decide +kernel
theorem dX0_put_18 : decode cX0_put 18 = .ok (.aload_n 0, 1) := by decide +kernel
theorem dX0_put_19 : decode cX0_put 19 = .ok (.getfield 21, 3) := by decide +kernel
theorem dX0_put_22 : decode cX0_put 22 = .ok (.iload_n 1, 1) := by decide +kernel
theorem dX0_put_23 : decode cX0_put 23 = .ok (.iload 4, 2) := by decide +kernel
theorem dX0_put_25 : decode cX0_put 25 = .ok (.invokevirtual 27, 3) := by decide +kernel
theorem dX0_put_28 : decode cX0_put 28 = .ok (.aload_n 0, 1) := by decide +kernel
theorem dX0_put_29 : decode cX0_put 29 = .ok (.getfield 24, 3) := by decide +kernel
theorem dX0_put_32 : decode cX0_put 32 = .ok (.iload_n 1, 1) := by decide +kernel
theorem dX0_put_33 : decode cX0_put 33 = .ok (.iload 5, 2) := by decide +kernel
theorem dX0_put_35 : decode cX0_put 35 = .ok (.invokevirtual 27, 3) := by decide +kernel
theorem dX0_put_38 : decode cX0_put 38 = .ok (.return_, 1) := by decide +kernel
theorem dX0_twiceMiddleX_0 : decode cX0_twiceMiddleX 0 = .ok (.iconst 2, 1) := by decide +kernel
theorem dX0_twiceMiddleX_1 : decode cX0_twiceMiddleX 1 = .ok (.aload_n 0, 1) := by decide +kernel
theorem dX0_twiceMiddleX_2 : decode cX0_twiceMiddleX 2 = .ok (.getfield 12, 3) := by decide +kernel
theorem dX0_twiceMiddleX_5 : decode cX0_twiceMiddleX 5 = .ok (.iload_n 1, 1) := by decide +kernel
theorem dX0_twiceMiddleX_6 : decode cX0_twiceMiddleX 6 = .ok (.invokevirtual 31, 3) := by decide +kernel
theorem dX0_twiceMiddleX_9 : decode cX0_twiceMiddleX 9 = .ok (.imul, 1) := by decide +kernel
theorem dX0_twiceMiddleX_10 : decode cX0_twiceMiddleX 10 = .ok (.aload_n 0, 1) := by decide +kernel
theorem dX0_twiceMiddleX_11 : decode cX0_twiceMiddleX 11 = .ok (.getfield 21, 3) := by decide +kernel
theorem dX0_twiceMiddleX_14 : decode cX0_twiceMiddleX 14 = .ok (.iload_n 1, 1) := by decide +kernel
theorem dX0_twiceMiddleX_15 : decode cX0_twiceMiddleX 15 = .ok (.invokevirtual 31, 3) := by decide +kernel
theorem dX0_twiceMiddleX_18 : decode cX0_twiceMiddleX 18 = .ok (.iadd, 1) := by decide +kernel
theorem dX0_twiceMiddleX_19 : decode cX0_twiceMiddleX 19 = .ok (.ireturn, 1) := by decide +kernel
theorem dX0_twiceMiddleY_0 : decode cX0_twiceMiddleY 0 = .ok (.iconst 2, 1) := by decide +kernel
theorem dX0_twiceMiddleY_1 : decode cX0_twiceMiddleY 1 = .ok (.aload_n 0, 1) := by decide +kernel
theorem dX0_twiceMiddleY_2 : decode cX0_twiceMiddleY 2 = .ok (.getfield 18, 3) := by decide +kernel
theorem dX0_twiceMiddleY_5 : decode cX0_twiceMiddleY 5 = .ok (.iload_n 1, 1) := by decide +kernel
theorem dX0_twiceMiddleY_6 : decode cX0_twiceMiddleY 6 = .ok (.invokevirtual 31, 3) := by decide +kernel
theorem dX0_twiceMiddleY_9 : decode cX0_twiceMiddleY 9 = .ok (.imul, 1) := by decide +kernel
theorem dX0_twiceMiddleY_10 : decode cX0_twiceMiddleY 10 = .ok (.aload_n 0, 1) := by decide +kernel
theorem dX0_twiceMiddleY_11 : decode cX0_twiceMiddleY 11 = .ok (.getfield 24, 3) := by decide +kernel
theorem dX0_twiceMiddleY_14 : decode cX0_twiceMiddleY 14 = .ok (.iload_n 1, 1) := by decide +kernel
theorem dX0_twiceMiddleY_15 : decode cX0_twiceMiddleY 15 = .ok (.invokevirtual 31, 3) := by decide +kernel
theorem dX0_twiceMiddleY_18 : decode cX0_twiceMiddleY 18 = .ok (.iadd, 1) := by decide +kernel
theorem dX0_twiceMiddleY_19 : decode cX0_twiceMiddleY 19 = .ok (.ireturn, 1) := by decide +kernel
theorem dX0_farFrom_0 : decode cX0_farFrom 0 = .ok (.aload_n 0, 1) := by decide +kernel
theorem dX0_farFrom_1 : decode cX0_farFrom 1 = .ok (.getfield 12, 3) := by decide +kernel
theorem dX0_farFrom_4 : decode cX0_farFrom 4 = .ok (.iload_n 1, 1) := by decide +kernel
theorem dX0_farFrom_5 : decode cX0_farFrom 5 = .ok (.invokevirtual 31, 3) := by decide +kernel
theorem dX0_farFrom_8 : decode cX0_farFrom 8 = .ok (.aload_n 0, 1) := by decide +kernel
theorem dX0_farFrom_9 : decode cX0_farFrom 9 = .ok (.getfield 21, 3) := by decide +kernel
theorem dX0_farFrom_12 : decode cX0_farFrom 12 = .ok (.iload_n 1, 1) := by decide +kernel
theorem dX0_farFrom_13 : decode cX0_farFrom 13 = .ok (.invokevirtual 31, 3) := by decide +kernel
theorem dX0_farFrom_16 : decode cX0_farFrom 16 = .ok (.iload_n 2, 1) := by decide +kernel
theorem dX0_farFrom_17 : decode cX0_farFrom 17 = .ok (.iload 4, 2) := by decide +kernel
theorem dX0_farFrom_19 : decode cX0_farFrom 19 = .ok (.invokestatic 35, 3) := by decide +kernel
theorem dX0_farFrom_22 : decode cX0_farFrom 22 = .ok (.istore 6, 2) := by decide +kernel
theorem dX0_farFrom_24 : decode cX0_farFrom 24 = .ok (.aload_n 0, 1) := by decide +kernel
theorem dX0_farFrom_25 : decode cX0_farFrom 25 = .ok (.getfield 18, 3) := by decide +kernel
theorem dX0_farFrom_28 : decode cX0_farFrom 28 = .ok (.iload_n 1, 1) := by decide +kernel
theorem dX0_farFrom_29 : decode cX0_farFrom 29 = .ok (.invokevirtual 31, 3) := by decide +kernel
theorem dX0_farFrom_32 : decode cX0_farFrom 32 = .ok (.aload_n 0, 1) := by decide +kernel
theorem dX0_farFrom_33 : decode cX0_farFrom 33 = .ok (.getfield 24, 3) := by decide +kernel
theorem dX0_farFrom_36 : decode cX0_farFrom 36 = .ok (.iload_n 1, 1) := by decide +kernel
theorem dX0_farFrom_37 : decode cX0_farFrom 37 = .ok (.invokevirtual 31, 3) := by decide +kernel
theorem dX0_farFrom_40 : decode cX0_farFrom 40 = .ok (.iload_n 3, 1) := by decide +kernel
theorem dX0_farFrom_41 : decode cX0_farFrom 41 = .ok (.iload 5, 2) := by decide +kernel
theorem dX0_farFrom_43 : decode cX0_farFrom 43 = .ok (.invokestatic 35, 3) := by decide +kernel
theorem dX0_farFrom_46 : decode cX0_farFrom 46 = .ok (.istore 7, 2) := by decide +kernel
theorem dX0_farFrom_48 : decode cX0_farFrom 48 = .ok (.iload 6, 2) := by decide +kernel
theorem dX0_farFrom_50 : decode cX0_farFrom 50 = .ok (.iload 6, 2) := by decide +kernel
theorem dX0_farFrom_52 : decode cX0_farFrom 52 = .ok (.imul, 1) := by decide +kernel
theorem dX0_farFrom_53 : decode cX0_farFrom 53 = .ok (.iload 7, 2) := by decide +kernel
theorem dX0_farFrom_55 : decode cX0_farFrom 55 = .ok (.iload 7, 2) := by decide +kernel
theorem dX0_farFrom_57 : decode cX0_farFrom 57 = .ok (.imul, 1) := by decide +kernel
theorem dX0_farFrom_58 : decode cX0_farFrom 58 = .ok (.iadd, 1) := by decide +kernel
theorem dX0_farFrom_59 : decode cX0_farFrom 59 = .ok (.ireturn, 1) := by decide +kernel
theorem dX0_farBetween_0 : decode cX0_farBetween 0 = .ok (.aload_n 0, 1) := by decide +kernel
theorem dX0_farBetween_1 : decode cX0_farBetween 1 = .ok (.iload_n 1, 1) := by decide +kernel
theorem dX0_farBetween_2 : decode cX0_farBetween 2 = .ok (.aload_n 2, 1) := by decide +kernel
theorem dX0_farBetween_3 : decode cX0_farBetween 3 = .ok (.getfield 12, 3) := by decide +kernel
theorem dX0_farBetween_6 : decode cX0_farBetween 6 = .ok (.iload_n 3, 1) := by decide +kernel
theorem dX0_farBetween_7 : decode cX0_farBetween 7 = .ok (.invokevirtual 31, 3) := by decide +kernel
theorem dX0_farBetween_10 : decode cX0_farBetween 10 = .ok (.aload_n 2, 1) := by decide +kernel
theorem dX0_farBetween_11 : decode cX0_farBetween 11 = .ok (.getfield 18, 3) := by decide +kernel
theorem dX0_farBetween_14 : decode cX0_farBetween 14 = .ok (.iload_n 3, 1) := by decide +kernel
theorem dX0_farBetween_15 : decode cX0_farBetween 15 = .ok (.invokevirtual 31, 3) := by decide +kernel
theorem dX0_farBetween_18 : decode cX0_farBetween 18 = .ok (.aload_n 2, 1) := by decide +kernel
theorem dX0_farBetween_19 : decode cX0_farBetween 19 = .ok (.getfield 21, 3) := by decide +kernel
theorem dX0_farBetween_22 : decode cX0_farBetween 22 = .ok (.iload_n 3, 1) := by decide +kernel
theorem dX0_farBetween_23 : decode cX0_farBetween 23 = .ok (.invokevirtual 31, 3) := by decide +kernel
theorem dX0_farBetween_26 : decode cX0_farBetween 26 = .ok (.aload_n 2, 1) := by decide +kernel
theorem dX0_farBetween_27 : decode cX0_farBetween 27 = .ok (.getfield 24, 3) := by decide +kernel
theorem dX0_farBetween_30 : decode cX0_farBetween 30 = .ok (.iload_n 3, 1) := by decide +kernel
theorem dX0_farBetween_31 : decode cX0_farBetween 31 = .ok (.invokevirtual 31, 3) := by decide +kernel
theorem dX0_farBetween_34 : decode cX0_farBetween 34 = .ok (.invokevirtual 39, 3) := by decide +kernel
theorem dX0_farBetween_37 : decode cX0_farBetween 37 = .ok (.ireturn, 1) := by decide +kernel
theorem dX0_gap_0 : decode cX0_gap 0 = .ok (.iconst 0, 1) := by decide +kernel
theorem dX0_gap_1 : decode cX0_gap 1 = .ok (.iload_n 0, 1) := by decide +kernel
theorem dX0_gap_2 : decode cX0_gap 2 = .ok (.iload_n 2, 1) := by decide +kernel
theorem dX0_gap_3 : decode cX0_gap 3 = .ok (.isub, 1) := by decide +kernel
theorem dX0_gap_4 : decode cX0_gap 4 = .ok (.iload_n 3, 1) := by decide +kernel
theorem dX0_gap_5 : decode cX0_gap 5 = .ok (.isub, 1) := by decide +kernel
theorem dX0_gap_6 : decode cX0_gap 6 = .ok (.iload_n 2, 1) := by decide +kernel
theorem dX0_gap_7 : decode cX0_gap 7 = .ok (.iload_n 0, 1) := by decide +kernel
theorem dX0_gap_8 : decode cX0_gap 8 = .ok (.isub, 1) := by decide +kernel
theorem dX0_gap_9 : decode cX0_gap 9 = .ok (.iload_n 1, 1) := by decide +kernel
theorem dX0_gap_10 : decode cX0_gap 10 = .ok (.isub, 1) := by decide +kernel
theorem dX0_gap_11 : decode cX0_gap 11 = .ok (.invokestatic 43, 3) := by decide +kernel
theorem dX0_gap_14 : decode cX0_gap 14 = .ok (.invokestatic 43, 3) := by decide +kernel
theorem dX0_gap_17 : decode cX0_gap 17 = .ok (.ireturn, 1) := by decide +kernel
theorem dX0_stretchOver_0 : decode cX0_stretchOver 0 = .ok (.aload_n 0, 1) := by decide +kernel
theorem dX0_stretchOver_1 : decode cX0_stretchOver 1 = .ok (.getfield 12, 3) := by decide +kernel
theorem dX0_stretchOver_4 : decode cX0_stretchOver 4 = .ok (.iload_n 1, 1) := by decide +kernel
theorem dX0_stretchOver_5 : decode cX0_stretchOver 5 = .ok (.invokevirtual 31, 3) := by decide +kernel
theorem dX0_stretchOver_8 : decode cX0_stretchOver 8 = .ok (.aload_n 2, 1) := by decide +kernel
theorem dX0_stretchOver_9 : decode cX0_stretchOver 9 = .ok (.getfield 12, 3) := by decide +kernel
theorem dX0_stretchOver_12 : decode cX0_stretchOver 12 = .ok (.iload_n 3, 1) := by decide +kernel
theorem dX0_stretchOver_13 : decode cX0_stretchOver 13 = .ok (.invokevirtual 31, 3) := by decide +kernel
theorem dX0_stretchOver_16 : decode cX0_stretchOver 16 = .ok (.invokestatic 49, 3) := by decide +kernel
theorem dX0_stretchOver_19 : decode cX0_stretchOver 19 = .ok (.istore 4, 2) := by decide +kernel
theorem dX0_stretchOver_21 : decode cX0_stretchOver 21 = .ok (.aload_n 0, 1) := by decide +kernel
theorem dX0_stretchOver_22 : decode cX0_stretchOver 22 = .ok (.getfield 18, 3) := by decide +kernel
theorem dX0_stretchOver_25 : decode cX0_stretchOver 25 = .ok (.iload_n 1, 1) := by decide +kernel
theorem dX0_stretchOver_26 : decode cX0_stretchOver 26 = .ok (.invokevirtual 31, 3) := by decide +kernel
theorem dX0_stretchOver_29 : decode cX0_stretchOver 29 = .ok (.aload_n 2, 1) := by decide +kernel
theorem dX0_stretchOver_30 : decode cX0_stretchOver 30 = .ok (.getfield 18, 3) := by decide +kernel
theorem dX0_stretchOver_33 : decode cX0_stretchOver 33 = .ok (.iload_n 3, 1) := by decide +kernel
theorem dX0_stretchOver_34 : decode cX0_stretchOver 34 = .ok (.invokevirtual 31, 3) := by decide +kernel
theorem dX0_stretchOver_37 : decode cX0_stretchOver 37 = .ok (.invokestatic 49, 3) := by decide +kernel
theorem dX0_stretchOver_40 : decode cX0_stretchOver 40 = .ok (.istore 5, 2) := by decide +kernel
theorem dX0_stretchOver_42 : decode cX0_stretchOver 42 = .ok (.aload_n 0, 1) := by decide +kernel
theorem dX0_stretchOver_43 : decode cX0_stretchOver 43 = .ok (.getfield 12, 3) := by decide +kernel
theorem dX0_stretchOver_46 : decode cX0_stretchOver 46 = .ok (.iload_n 1, 1) := by decide +kernel
theorem dX0_stretchOver_47 : decode cX0_stretchOver 47 = .ok (.invokevirtual 31, 3) := by decide +kernel
theorem dX0_stretchOver_50 : decode cX0_stretchOver 50 = .ok (.aload_n 0, 1) := by decide +kernel
theorem dX0_stretchOver_51 : decode cX0_stretchOver 51 = .ok (.getfield 21, 3) := by decide +kernel
theorem dX0_stretchOver_54 : decode cX0_stretchOver 54 = .ok (.iload_n 1, 1) := by decide +kernel
theorem dX0_stretchOver_55 : decode cX0_stretchOver 55 = .ok (.invokevirtual 31, 3) := by decide +kernel
theorem dX0_stretchOver_58 : decode cX0_stretchOver 58 = .ok (.iadd, 1) := by decide +kernel
theorem dX0_stretchOver_59 : decode cX0_stretchOver 59 = .ok (.aload_n 2, 1) := by decide +kernel
theorem dX0_stretchOver_60 : decode cX0_stretchOver 60 = .ok (.getfield 12, 3) := by decide +kernel
theorem dX0_stretchOver_63 : decode cX0_stretchOver 63 = .ok (.iload_n 3, 1) := by decide +kernel
theorem dX0_stretchOver_64 : decode cX0_stretchOver 64 = .ok (.invokevirtual 31, 3) := by decide +kernel
theorem dX0_stretchOver_67 : decode cX0_stretchOver 67 = .ok (.aload_n 2, 1) := by decide +kernel
theorem dX0_stretchOver_68 : decode cX0_stretchOver 68 = .ok (.getfield 21, 3) := by decide +kernel
theorem dX0_stretchOver_71 : decode cX0_stretchOver 71 = .ok (.iload_n 3, 1) := by decide +kernel
theorem dX0_stretchOver_72 : decode cX0_stretchOver 72 = .ok (.invokevirtual 31, 3) := by decide +kernel
theorem dX0_stretchOver_75 : decode cX0_stretchOver 75 = .ok (.iadd, 1) := by decide +kernel
theorem dX0_stretchOver_76 : decode cX0_stretchOver 76 = .ok (.invokestatic 43, 3) := by decide +kernel
theorem dX0_stretchOver_79 : decode cX0_stretchOver 79 = .ok (.istore 6, 2) := by decide +kernel
theorem dX0_stretchOver_81 : decode cX0_stretchOver 81 = .ok (.aload_n 0, 1) := by decide +kernel
theorem dX0_stretchOver_82 : decode cX0_stretchOver 82 = .ok (.getfield 18, 3) := by decide +kernel
theorem dX0_stretchOver_85 : decode cX0_stretchOver 85 = .ok (.iload_n 1, 1) := by decide +kernel
theorem dX0_stretchOver_86 : decode cX0_stretchOver 86 = .ok (.invokevirtual 31, 3) := by decide +kernel
theorem dX0_stretchOver_89 : decode cX0_stretchOver 89 = .ok (.aload_n 0, 1) := by decide +kernel
theorem dX0_stretchOver_90 : decode cX0_stretchOver 90 = .ok (.getfield 24, 3) := by decide +kernel
theorem dX0_stretchOver_93 : decode cX0_stretchOver 93 = .ok (.iload_n 1, 1) := by decide +kernel
theorem dX0_stretchOver_94 : decode cX0_stretchOver 94 = .ok (.invokevirtual 31, 3) := by decide +kernel
theorem dX0_stretchOver_97 : decode cX0_stretchOver 97 = .ok (.iadd, 1) := by decide +kernel
theorem dX0_stretchOver_98 : decode cX0_stretchOver 98 = .ok (.aload_n 2, 1) := by decide +kernel
theorem dX0_stretchOver_99 : decode cX0_stretchOver 99 = .ok (.getfield 18, 3) := by decide +kernel
theorem dX0_stretchOver_102 : decode cX0_stretchOver 102 = .ok (.iload_n 3, 1) := by decide +kernel
theorem dX0_stretchOver_103 : decode cX0_stretchOver 103 = .ok (.invokevirtual 31, 3) := by decide +kernel
theorem dX0_stretchOver_106 : decode cX0_stretchOver 106 = .ok (.aload_n 2, 1) := by decide +kernel
theorem dX0_stretchOver_107 : decode cX0_stretchOver 107 = .ok (.getfield 24, 3) := by decide +kernel
theorem dX0_stretchOver_110 : decode cX0_stretchOver 110 = .ok (.iload_n 3, 1) := by decide +kernel
theorem dX0_stretchOver_111 : decode cX0_stretchOver 111 = .ok (.invokevirtual 31, 3) := by decide +kernel
theorem dX0_stretchOver_114 : decode cX0_stretchOver 114 = .ok (.iadd, 1) := by decide +kernel
theorem dX0_stretchOver_115 : decode cX0_stretchOver 115 = .ok (.invokestatic 43, 3) := by decide +kernel
theorem dX0_stretchOver_118 : decode cX0_stretchOver 118 = .ok (.istore 7, 2) := by decide +kernel
theorem dX0_stretchOver_120 : decode cX0_stretchOver 120 = .ok (.aload_n 0, 1) := by decide +kernel
theorem dX0_stretchOver_121 : decode cX0_stretchOver 121 = .ok (.iload_n 1, 1) := by decide +kernel
theorem dX0_stretchOver_122 : decode cX0_stretchOver 122 = .ok (.iload 4, 2) := by decide +kernel
theorem dX0_stretchOver_124 : decode cX0_stretchOver 124 = .ok (.iload 5, 2) := by decide +kernel
theorem dX0_stretchOver_126 : decode cX0_stretchOver 126 = .ok (.iload 6, 2) := by decide +kernel
theorem dX0_stretchOver_128 : decode cX0_stretchOver 128 = .ok (.iload 4, 2) := by decide +kernel
theorem dX0_stretchOver_130 : decode cX0_stretchOver 130 = .ok (.isub, 1) := by decide +kernel
theorem dX0_stretchOver_131 : decode cX0_stretchOver 131 = .ok (.iload 7, 2) := by decide +kernel
theorem dX0_stretchOver_133 : decode cX0_stretchOver 133 = .ok (.iload 5, 2) := by decide +kernel
theorem dX0_stretchOver_135 : decode cX0_stretchOver 135 = .ok (.isub, 1) := by decide +kernel
theorem dX0_stretchOver_136 : decode cX0_stretchOver 136 = .ok (.invokevirtual 52, 3) := by decide +kernel
theorem dX0_stretchOver_139 : decode cX0_stretchOver 139 = .ok (.return_, 1) := by decide +kernel
theorem dX1_init_0 : decode cX1_init 0 = .ok (.aload_n 0, 1) := by decide +kernel
theorem dX1_init_1 : decode cX1_init 1 = .ok (.invokespecial 3, 3) := by decide +kernel
theorem dX1_init_4 : decode cX1_init 4 = .ok (.aload_n 0, 1) := by decide +kernel
theorem dX1_init_5 : decode cX1_init 5 = .ok (.new 9, 3) := by decide +kernel
theorem dX1_init_8 : decode cX1_init 8 = .ok (.dup, 1) := by decide +kernel
theorem dX1_init_9 : decode cX1_init 9 = .ok (.bipush 8, 2) := by decide +kernel
theorem dX1_init_11 : decode cX1_init 11 = .ok (.invokespecial 11, 3) := by decide +kernel
theorem dX1_init_14 : decode cX1_init 14 = .ok (.putfield 14, 3) := by decide +kernel
theorem dX1_init_17 : decode cX1_init 17 = .ok (.aload_n 0, 1) := by decide +kernel
theorem dX1_init_18 : decode cX1_init 18 = .ok (.new 9, 3) := by decide +kernel
theorem dX1_init_21 : decode cX1_init 21 = .ok (.dup, 1) := by decide +kernel
theorem dX1_init_22 : decode cX1_init 22 = .ok (.bipush 8, 2) := by decide +kernel
theorem dX1_init_24 : decode cX1_init 24 = .ok (.invokespecial 11, 3) := by decide +kernel
theorem dX1_init_27 : decode cX1_init 27 = .ok (.putfield 20, 3) := by decide +kernel
theorem dX1_init_30 : decode cX1_init 30 = .ok (.return_, 1) := by decide +kernel
theorem dX1_next_0 : decode cX1_next 0 = .ok (.iload_n 1, 1) := by decide +kernel
theorem dX1_next_1 : decode cX1_next 1 = .ok (.iconst 1, 1) := by decide +kernel
theorem dX1_next_2 : decode cX1_next 2 = .ok (.iadd, 1) := by decide +kernel
theorem dX1_next_3 : decode cX1_next 3 = .ok (.aload_n 0, 1) := by decide +kernel
theorem dX1_next_4 : decode cX1_next 4 = .ok (.getfield 23, 3) := by decide +kernel
theorem dX1_next_7 : decode cX1_next 7 = .ok (.if_icmp .ge 9, 3) := by decide +kernel
theorem dX1_next_10 : decode cX1_next 10 = .ok (.iload_n 1, 1) := by decide +kernel
theorem dX1_next_11 : decode cX1_next 11 = .ok (.iconst 1, 1) := by decide +kernel
theorem dX1_next_12 : decode cX1_next 12 = .ok (.iadd, 1) := by decide +kernel
theorem dX1_next_13 : decode cX1_next 13 = .ok (.goto 4, 3) := by decide +kernel
theorem dX1_next_16 : decode cX1_next 16 = .ok (.iconst 0, 1) := by decide +kernel
theorem dX1_next_17 : decode cX1_next 17 = .ok (.ireturn, 1) := by decide +kernel
theorem dX1_twiceItsArea_0 : decode cX1_twiceItsArea 0 = .ok (.iconst 0, 1) := by decide +kernel
theorem dX1_twiceItsArea_1 : decode cX1_twiceItsArea 1 = .ok (.istore_n 1, 1) := by decide +kernel
theorem dX1_twiceItsArea_2 : decode cX1_twiceItsArea 2 = .ok (.iconst 0, 1) := by decide +kernel
theorem dX1_twiceItsArea_3 : decode cX1_twiceItsArea 3 = .ok (.istore_n 2, 1) := by decide +kernel
theorem dX1_twiceItsArea_4 : decode cX1_twiceItsArea 4 = .ok (.iload_n 2, 1) := by decide +kernel
theorem dX1_twiceItsArea_5 : decode cX1_twiceItsArea 5 = .ok (.aload_n 0, 1) := by decide +kernel
theorem dX1_twiceItsArea_6 : decode cX1_twiceItsArea 6 = .ok (.getfield 23, 3) := by decide +kernel
theorem dX1_twiceItsArea_9 : decode cX1_twiceItsArea 9 = .ok (.if_icmp .ge 53, 3) := by decide +kernel
theorem dX1_twiceItsArea_12 : decode cX1_twiceItsArea 12 = .ok (.aload_n 0, 1) := by decide +kernel
theorem dX1_twiceItsArea_13 : decode cX1_twiceItsArea 13 = .ok (.iload_n 2, 1) := by decide +kernel
theorem dX1_twiceItsArea_14 : decode cX1_twiceItsArea 14 = .ok (.invokevirtual 31, 3) := by decide +kernel
theorem dX1_twiceItsArea_17 : decode cX1_twiceItsArea 17 = .ok (.istore_n 3, 1) := by decide +kernel
theorem dX1_twiceItsArea_18 : decode cX1_twiceItsArea 18 = .ok (.iload_n 1, 1) := by decide +kernel
theorem dX1_twiceItsArea_19 : decode cX1_twiceItsArea 19 = .ok (.aload_n 0, 1) := by decide +kernel
theorem dX1_twiceItsArea_20 : decode cX1_twiceItsArea 20 = .ok (.getfield 14, 3) := by decide +kernel
theorem dX1_twiceItsArea_23 : decode cX1_twiceItsArea 23 = .ok (.iload_n 2, 1) := by decide +kernel
theorem dX1_twiceItsArea_24 : decode cX1_twiceItsArea 24 = .ok (.invokevirtual 35, 3) := by decide +kernel
theorem dX1_twiceItsArea_27 : decode cX1_twiceItsArea 27 = .ok (.aload_n 0, 1) := by decide +kernel
theorem dX1_twiceItsArea_28 : decode cX1_twiceItsArea 28 = .ok (.getfield 20, 3) := by decide +kernel
theorem dX1_twiceItsArea_31 : decode cX1_twiceItsArea 31 = .ok (.iload_n 3, 1) := by decide +kernel
theorem dX1_twiceItsArea_32 : decode cX1_twiceItsArea 32 = .ok (.invokevirtual 35, 3) := by decide +kernel
theorem dX1_twiceItsArea_35 : decode cX1_twiceItsArea 35 = .ok (.imul, 1) := by decide +kernel
theorem dX1_twiceItsArea_36 : decode cX1_twiceItsArea 36 = .ok (.aload_n 0, 1) := by decide +kernel
theorem dX1_twiceItsArea_37 : decode cX1_twiceItsArea 37 = .ok (.getfield 14, 3) := by decide +kernel
theorem dX1_twiceItsArea_40 : decode cX1_twiceItsArea 40 = .ok (.iload_n 3, 1) := by decide +kernel
theorem dX1_twiceItsArea_41 : decode cX1_twiceItsArea 41 = .ok (.invokevirtual 35, 3) := by decide +kernel
theorem dX1_twiceItsArea_44 : decode cX1_twiceItsArea 44 = .ok (.aload_n 0, 1) := by decide +kernel
theorem dX1_twiceItsArea_45 : decode cX1_twiceItsArea 45 = .ok (.getfield 20, 3) := by decide +kernel
theorem dX1_twiceItsArea_48 : decode cX1_twiceItsArea 48 = .ok (.iload_n 2, 1) := by decide +kernel
theorem dX1_twiceItsArea_49 : decode cX1_twiceItsArea 49 = .ok (.invokevirtual 35, 3) := by decide +kernel
theorem dX1_twiceItsArea_52 : decode cX1_twiceItsArea 52 = .ok (.imul, 1) := by decide +kernel
theorem dX1_twiceItsArea_53 : decode cX1_twiceItsArea 53 = .ok (.isub, 1) := by decide +kernel
theorem dX1_twiceItsArea_54 : decode cX1_twiceItsArea 54 = .ok (.iadd, 1) := by decide +kernel
theorem dX1_twiceItsArea_55 : decode cX1_twiceItsArea 55 = .ok (.istore_n 1, 1) := by decide +kernel
theorem dX1_twiceItsArea_56 : decode cX1_twiceItsArea 56 = .ok (.iinc 2 1, 3) := by decide +kernel
theorem dX1_twiceItsArea_59 : decode cX1_twiceItsArea 59 = .ok (.goto (-55), 3) := by decide +kernel
theorem dX1_twiceItsArea_62 : decode cX1_twiceItsArea 62 = .ok (.iload_n 1, 1) := by decide +kernel
theorem dX1_twiceItsArea_63 : decode cX1_twiceItsArea 63 = .ok (.invokestatic 38, 3) := by decide +kernel
theorem dX1_twiceItsArea_66 : decode cX1_twiceItsArea 66 = .ok (.ireturn, 1) := by decide +kernel
theorem dX2_init_0 : decode cX2_init 0 = .ok (.aload_n 0, 1) := by decide +kernel
theorem dX2_init_1 : decode cX2_init 1 = .ok (.invokespecial 3, 3) := by decide +kernel
theorem dX2_init_4 : decode cX2_init 4 = .ok (.aload_n 0, 1) := by decide +kernel
theorem dX2_init_5 : decode cX2_init 5 = .ok (.new 9, 3) := by decide +kernel
theorem dX2_init_8 : decode cX2_init 8 = .ok (.dup, 1) := by decide +kernel
theorem dX2_init_9 : decode cX2_init 9 = .ok (.invokespecial 11, 3) := by decide +kernel
theorem dX2_init_12 : decode cX2_init 12 = .ok (.putfield 12, 3) := by decide +kernel
theorem dX2_init_15 : decode cX2_init 15 = .ok (.aload_n 0, 1) := by decide +kernel
theorem dX2_init_16 : decode cX2_init 16 = .ok (.iconst 4, 1) := by decide +kernel
theorem dX2_init_17 : decode cX2_init 17 = .ok (.putfield 18, 3) := by decide +kernel
theorem dX2_init_20 : decode cX2_init 20 = .ok (.aload_n 0, 1) := by decide +kernel
theorem dX2_init_21 : decode cX2_init 21 = .ok (.iload_n 1, 1) := by decide +kernel
theorem dX2_init_22 : decode cX2_init 22 = .ok (.putfield 22, 3) := by decide +kernel
theorem dX2_init_25 : decode cX2_init 25 = .ok (.aload_n 0, 1) := by decide +kernel
theorem dX2_init_26 : decode cX2_init 26 = .ok (.iload_n 2, 1) := by decide +kernel
theorem dX2_init_27 : decode cX2_init 27 = .ok (.putfield 25, 3) := by decide +kernel
theorem dX2_init_30 : decode cX2_init 30 = .ok (.return_, 1) := by decide +kernel
theorem dX2_regrow_0 : decode cX2_regrow 0 = .ok (.aload_n 0, 1) := by decide +kernel
theorem dX2_regrow_1 : decode cX2_regrow 1 = .ok (.getfield 25, 3) := by decide +kernel
theorem dX2_regrow_4 : decode cX2_regrow 4 = .ok (.ifCond .eq 19, 3) := by decide +kernel
theorem dX2_regrow_7 : decode cX2_regrow 7 = .ok (.aload_n 0, 1) := by decide +kernel
theorem dX2_regrow_8 : decode cX2_regrow 8 = .ok (.getfield 12, 3) := by decide +kernel
theorem dX2_regrow_11 : decode cX2_regrow 11 = .ok (.aload_n 1, 1) := by decide +kernel
theorem dX2_regrow_12 : decode cX2_regrow 12 = .ok (.aload_n 0, 1) := by decide +kernel
theorem dX2_regrow_13 : decode cX2_regrow 13 = .ok (.getfield 22, 3) := by decide +kernel
theorem dX2_regrow_16 : decode cX2_regrow 16 = .ok (.aload_n 0, 1) := by decide +kernel
theorem dX2_regrow_17 : decode cX2_regrow 17 = .ok (.getfield 18, 3) := by decide +kernel
theorem dX2_regrow_20 : decode cX2_regrow 20 = .ok (.invokevirtual 29, 3) := by decide +kernel
theorem dX2_regrow_23 : decode cX2_regrow 23 = .ok (.return_, 1) := by decide +kernel
theorem dX2_letGo_0 : decode cX2_letGo 0 = .ok (.aload_n 0, 1) := by decide +kernel
theorem dX2_letGo_1 : decode cX2_letGo 1 = .ok (.getfield 12, 3) := by decide +kernel
theorem dX2_letGo_4 : decode cX2_letGo 4 = .ok (.getfield 33, 3) := by decide +kernel
theorem dX2_letGo_7 : decode cX2_letGo 7 = .ok (.iload_n 1, 1) := by decide +kernel
theorem dX2_letGo_8 : decode cX2_letGo 8 = .ok (.invokevirtual 37, 3) := by decide +kernel
theorem dX2_letGo_11 : decode cX2_letGo 11 = .ok (.istore_n 2, 1) := by decide +kernel
theorem dX2_letGo_12 : decode cX2_letGo 12 = .ok (.iload_n 2, 1) := by decide +kernel
theorem dX2_letGo_13 : decode cX2_letGo 13 = .ok (.iconst (-1), 1) := by decide +kernel
theorem dX2_letGo_14 : decode cX2_letGo 14 = .ok (.if_icmp .eq 27, 3) := by decide +kernel
theorem dX2_letGo_17 : decode cX2_letGo 17 = .ok (.aload_n 0, 1) := by decide +kernel
theorem dX2_letGo_18 : decode cX2_letGo 18 = .ok (.getfield 12, 3) := by decide +kernel
theorem dX2_letGo_21 : decode cX2_letGo 21 = .ok (.getfield 43, 3) := by decide +kernel
theorem dX2_letGo_24 : decode cX2_letGo 24 = .ok (.iload_n 2, 1) := by decide +kernel
theorem dX2_letGo_25 : decode cX2_letGo 25 = .ok (.iconst (-1), 1) := by decide +kernel
theorem dX2_letGo_26 : decode cX2_letGo 26 = .ok (.invokevirtual 46, 3) := by decide +kernel
theorem dX2_letGo_29 : decode cX2_letGo 29 = .ok (.aload_n 0, 1) := by decide +kernel
theorem dX2_letGo_30 : decode cX2_letGo 30 = .ok (.getfield 12, 3) := by decide +kernel
theorem dX2_letGo_33 : decode cX2_letGo 33 = .ok (.getfield 33, 3) := by decide +kernel
theorem dX2_letGo_36 : decode cX2_letGo 36 = .ok (.iload_n 1, 1) := by decide +kernel
theorem dX2_letGo_37 : decode cX2_letGo 37 = .ok (.iconst (-1), 1) := by decide +kernel
theorem dX2_letGo_38 : decode cX2_letGo 38 = .ok (.invokevirtual 50, 3) := by decide +kernel
theorem dX2_letGo_41 : decode cX2_letGo 41 = .ok (.return_, 1) := by decide +kernel
theorem dX2_isLoose_0 : decode cX2_isLoose 0 = .ok (.aload_n 0, 1) := by decide +kernel
theorem dX2_isLoose_1 : decode cX2_isLoose 1 = .ok (.getfield 25, 3) := by decide +kernel
theorem dX2_isLoose_4 : decode cX2_isLoose 4 = .ok (.ifCond .ne 22, 3) := by decide +kernel
theorem dX2_isLoose_7 : decode cX2_isLoose 7 = .ok (.aload_n 0, 1) := by decide +kernel
theorem dX2_isLoose_8 : decode cX2_isLoose 8 = .ok (.getfield 12, 3) := by decide +kernel
theorem dX2_isLoose_11 : decode cX2_isLoose 11 = .ok (.getfield 33, 3) := by decide +kernel
theorem dX2_isLoose_14 : decode cX2_isLoose 14 = .ok (.iload_n 1, 1) := by decide +kernel
theorem dX2_isLoose_15 : decode cX2_isLoose 15 = .ok (.invokevirtual 37, 3) := by decide +kernel
theorem dX2_isLoose_18 : decode cX2_isLoose 18 = .ok (.iconst (-1), 1) := by decide +kernel
theorem dX2_isLoose_19 : decode cX2_isLoose 19 = .ok (.if_icmp .ne 7, 3) := by decide +kernel
theorem dX2_isLoose_22 : decode cX2_isLoose 22 = .ok (.iconst 1, 1) := by decide +kernel
theorem dX2_isLoose_23 : decode cX2_isLoose 23 = .ok (.goto 4, 3) := by decide +kernel
theorem dX2_isLoose_26 : decode cX2_isLoose 26 = .ok (.iconst 0, 1) := by decide +kernel
theorem dX2_isLoose_27 : decode cX2_isLoose 27 = .ok (.ireturn, 1) := by decide +kernel
theorem dX3_init_0 : decode cX3_init 0 = .ok (.aload_n 0, 1) := by decide +kernel
theorem dX3_init_1 : decode cX3_init 1 = .ok (.invokespecial 1, 3) := by decide +kernel
theorem dX3_init_4 : decode cX3_init 4 = .ok (.aload_n 0, 1) := by decide +kernel
theorem dX3_init_5 : decode cX3_init 5 = .ok (.iload_n 1, 1) := by decide +kernel
theorem dX3_init_6 : decode cX3_init 6 = .ok (.iconst 0, 1) := by decide +kernel
theorem dX3_init_7 : decode cX3_init 7 = .ok (.invokestatic 7, 3) := by decide +kernel
theorem dX3_init_10 : decode cX3_init 10 = .ok (.newarray .int, 2) := by decide +kernel
theorem dX3_init_12 : decode cX3_init 12 = .ok (.putfield 13, 3) := by decide +kernel
theorem dX3_init_15 : decode cX3_init 15 = .ok (.return_, 1) := by decide +kernel
theorem dX3_at_0 : decode cX3_at 0 = .ok (.iload_n 1, 1) := by decide +kernel
theorem dX3_at_1 : decode cX3_at 1 = .ok (.ifCond .lt 21, 3) := by decide +kernel
theorem dX3_at_4 : decode cX3_at 4 = .ok (.iload_n 1, 1) := by decide +kernel
theorem dX3_at_5 : decode cX3_at 5 = .ok (.aload_n 0, 1) := by decide +kernel
theorem dX3_at_6 : decode cX3_at 6 = .ok (.getfield 13, 3) := by decide +kernel
theorem dX3_at_9 : decode cX3_at 9 = .ok (.arraylength, 1) := by decide +kernel
theorem dX3_at_10 : decode cX3_at 10 = .ok (.if_icmp .ge 12, 3) := by decide +kernel
theorem dX3_at_13 : decode cX3_at 13 = .ok (.aload_n 0, 1) := by decide +kernel
theorem dX3_at_14 : decode cX3_at 14 = .ok (.getfield 13, 3) := by decide +kernel
theorem dX3_at_17 : decode cX3_at 17 = .ok (.iload_n 1, 1) := by decide +kernel
theorem dX3_at_18 : decode cX3_at 18 = .ok (.iaload, 1) := by decide +kernel
theorem dX3_at_19 : decode cX3_at 19 = .ok (.goto 4, 3) := by decide +kernel
theorem dX3_at_22 : decode cX3_at 22 = .ok (.iconst 0, 1) := by decide +kernel
theorem dX3_at_23 : decode cX3_at 23 = .ok (.ireturn, 1) := by decide +kernel
theorem dX3_put_0 : decode cX3_put 0 = .ok (.iload_n 1, 1) := by decide +kernel
theorem dX3_put_1 : decode cX3_put 1 = .ok (.ifCond .lt 19, 3) := by decide +kernel
theorem dX3_put_4 : decode cX3_put 4 = .ok (.iload_n 1, 1) := by decide +kernel
theorem dX3_put_5 : decode cX3_put 5 = .ok (.aload_n 0, 1) := by decide +kernel
theorem dX3_put_6 : decode cX3_put 6 = .ok (.getfield 13, 3) := by decide +kernel
theorem dX3_put_9 : decode cX3_put 9 = .ok (.arraylength, 1) := by decide +kernel
theorem dX3_put_10 : decode cX3_put 10 = .ok (.if_icmp .ge 10, 3) := by decide +kernel
theorem dX3_put_13 : decode cX3_put 13 = .ok (.aload_n 0, 1) := by decide +kernel
theorem dX3_put_14 : decode cX3_put 14 = .ok (.getfield 13, 3) := by decide +kernel
theorem dX3_put_17 : decode cX3_put 17 = .ok (.iload_n 1, 1) := by decide +kernel
theorem dX3_put_18 : decode cX3_put 18 = .ok (.iload_n 2, 1) := by decide +kernel
theorem dX3_put_19 : decode cX3_put 19 = .ok (.iastore, 1) := by decide +kernel
theorem dX3_put_20 : decode cX3_put 20 = .ok (.return_, 1) := by decide +kernel
theorem dX3_addTo_0 : decode cX3_addTo 0 = .ok (.iload_n 1, 1) := by decide +kernel
theorem dX3_addTo_1 : decode cX3_addTo 1 = .ok (.ifCond .lt 22, 3) := by decide +kernel
theorem dX3_addTo_4 : decode cX3_addTo 4 = .ok (.iload_n 1, 1) := by decide +kernel
theorem dX3_addTo_5 : decode cX3_addTo 5 = .ok (.aload_n 0, 1) := by decide +kernel
theorem dX3_addTo_6 : decode cX3_addTo 6 = .ok (.getfield 13, 3) := by decide +kernel
theorem dX3_addTo_9 : decode cX3_addTo 9 = .ok (.arraylength, 1) := by decide +kernel
theorem dX3_addTo_10 : decode cX3_addTo 10 = .ok (.if_icmp .ge 13, 3) := by decide +kernel
theorem dX3_addTo_13 : decode cX3_addTo 13 = .ok (.aload_n 0, 1) := by decide +kernel
theorem dX3_addTo_14 : decode cX3_addTo 14 = .ok (.getfield 13, 3) := by decide +kernel
theorem dX3_addTo_17 : decode cX3_addTo 17 = .ok (.iload_n 1, 1) := by decide +kernel
theorem dX3_addTo_18 : decode cX3_addTo 18 = .ok (.dup2, 1) := by decide +kernel
theorem dX3_addTo_19 : decode cX3_addTo 19 = .ok (.iaload, 1) := by decide +kernel
theorem dX3_addTo_20 : decode cX3_addTo 20 = .ok (.iload_n 2, 1) := by decide +kernel
theorem dX3_addTo_21 : decode cX3_addTo 21 = .ok (.iadd, 1) := by decide +kernel
theorem dX3_addTo_22 : decode cX3_addTo 22 = .ok (.iastore, 1) := by decide +kernel
theorem dX3_addTo_23 : decode cX3_addTo 23 = .ok (.return_, 1) := by decide +kernel
theorem dX3_fill_0 : decode cX3_fill 0 = .ok (.iconst 0, 1) := by decide +kernel
theorem dX3_fill_1 : decode cX3_fill 1 = .ok (.istore_n 2, 1) := by decide +kernel
theorem dX3_fill_2 : decode cX3_fill 2 = .ok (.iload_n 2, 1) := by decide +kernel
theorem dX3_fill_3 : decode cX3_fill 3 = .ok (.aload_n 0, 1) := by decide +kernel
theorem dX3_fill_4 : decode cX3_fill 4 = .ok (.getfield 13, 3) := by decide +kernel
theorem dX3_fill_7 : decode cX3_fill 7 = .ok (.arraylength, 1) := by decide +kernel
theorem dX3_fill_8 : decode cX3_fill 8 = .ok (.if_icmp .ge 16, 3) := by decide +kernel
theorem dX3_fill_11 : decode cX3_fill 11 = .ok (.aload_n 0, 1) := by decide +kernel
theorem dX3_fill_12 : decode cX3_fill 12 = .ok (.getfield 13, 3) := by decide +kernel
theorem dX3_fill_15 : decode cX3_fill 15 = .ok (.iload_n 2, 1) := by decide +kernel
theorem dX3_fill_16 : decode cX3_fill 16 = .ok (.iload_n 1, 1) := by decide +kernel
theorem dX3_fill_17 : decode cX3_fill 17 = .ok (.iastore, 1) := by decide +kernel
theorem dX3_fill_18 : decode cX3_fill 18 = .ok (.iinc 2 1, 3) := by decide +kernel
theorem dX3_fill_21 : decode cX3_fill 21 = .ok (.goto (-19), 3) := by decide +kernel
theorem dX3_fill_24 : decode cX3_fill 24 = .ok (.return_, 1) := by decide +kernel
theorem dX3_sortPart_0 : decode cX3_sortPart 0 = .ok (.iload_n 1, 1) := by decide +kernel
theorem dX3_sortPart_1 : decode cX3_sortPart 1 = .ok (.iconst 0, 1) := by decide +kernel
theorem dX3_sortPart_2 : decode cX3_sortPart 2 = .ok (.invokestatic 7, 3) := by decide +kernel
theorem dX3_sortPart_5 : decode cX3_sortPart 5 = .ok (.istore_n 3, 1) := by decide +kernel
theorem dX3_sortPart_6 : decode cX3_sortPart 6 = .ok (.iload_n 2, 1) := by decide +kernel
theorem dX3_sortPart_7 : decode cX3_sortPart 7 = .ok (.aload_n 0, 1) := by decide +kernel
theorem dX3_sortPart_8 : decode cX3_sortPart 8 = .ok (.getfield 13, 3) := by decide +kernel
theorem dX3_sortPart_11 : decode cX3_sortPart 11 = .ok (.arraylength, 1) := by decide +kernel
theorem dX3_sortPart_12 : decode cX3_sortPart 12 = .ok (.invokestatic 19, 3) := by decide +kernel
theorem dX3_sortPart_15 : decode cX3_sortPart 15 = .ok (.istore 4, 2) := by decide +kernel
theorem dX3_sortPart_17 : decode cX3_sortPart 17 = .ok (.iload_n 3, 1) := by decide +kernel
theorem dX3_sortPart_18 : decode cX3_sortPart 18 = .ok (.istore 5, 2) := by decide +kernel
theorem dX3_sortPart_20 : decode cX3_sortPart 20 = .ok (.iload 5, 2) := by decide +kernel
theorem dX3_sortPart_22 : decode cX3_sortPart 22 = .ok (.iload 4, 2) := by decide +kernel
theorem dX3_sortPart_24 : decode cX3_sortPart 24 = .ok (.if_icmp .ge 73, 3) := by decide +kernel
theorem dX3_sortPart_27 : decode cX3_sortPart 27 = .ok (.aload_n 0, 1) := by decide +kernel
theorem dX3_sortPart_28 : decode cX3_sortPart 28 = .ok (.getfield 13, 3) := by decide +kernel
theorem dX3_sortPart_31 : decode cX3_sortPart 31 = .ok (.iload 5, 2) := by decide +kernel
theorem dX3_sortPart_33 : decode cX3_sortPart 33 = .ok (.iaload, 1) := by decide +kernel
theorem dX3_sortPart_34 : decode cX3_sortPart 34 = .ok (.istore 6, 2) := by decide +kernel
theorem dX3_sortPart_36 : decode cX3_sortPart 36 = .ok (.iload 5, 2) := by decide +kernel
theorem dX3_sortPart_38 : decode cX3_sortPart 38 = .ok (.istore 7, 2) := by decide +kernel
theorem dX3_sortPart_40 : decode cX3_sortPart 40 = .ok (.iload 7, 2) := by decide +kernel
theorem dX3_sortPart_42 : decode cX3_sortPart 42 = .ok (.iload_n 3, 1) := by decide +kernel
theorem dX3_sortPart_43 : decode cX3_sortPart 43 = .ok (.if_icmp .le 39, 3) := by decide +kernel
theorem dX3_sortPart_46 : decode cX3_sortPart 46 = .ok (.aload_n 0, 1) := by decide +kernel
theorem dX3_sortPart_47 : decode cX3_sortPart 47 = .ok (.getfield 13, 3) := by decide +kernel
theorem dX3_sortPart_50 : decode cX3_sortPart 50 = .ok (.iload 7, 2) := by decide +kernel
theorem dX3_sortPart_52 : decode cX3_sortPart 52 = .ok (.iconst 1, 1) := by decide +kernel
theorem dX3_sortPart_53 : decode cX3_sortPart 53 = .ok (.isub, 1) := by decide +kernel
theorem dX3_sortPart_54 : decode cX3_sortPart 54 = .ok (.iaload, 1) := by decide +kernel
theorem dX3_sortPart_55 : decode cX3_sortPart 55 = .ok (.iload 6, 2) := by decide +kernel
theorem dX3_sortPart_57 : decode cX3_sortPart 57 = .ok (.if_icmp .le 25, 3) := by decide +kernel
theorem dX3_sortPart_60 : decode cX3_sortPart 60 = .ok (.aload_n 0, 1) := by decide +kernel
theorem dX3_sortPart_61 : decode cX3_sortPart 61 = .ok (.getfield 13, 3) := by decide +kernel
theorem dX3_sortPart_64 : decode cX3_sortPart 64 = .ok (.iload 7, 2) := by decide +kernel
theorem dX3_sortPart_66 : decode cX3_sortPart 66 = .ok (.aload_n 0, 1) := by decide +kernel
theorem dX3_sortPart_67 : decode cX3_sortPart 67 = .ok (.getfield 13, 3) := by decide +kernel
theorem dX3_sortPart_70 : decode cX3_sortPart 70 = .ok (.iload 7, 2) := by decide +kernel
theorem dX3_sortPart_72 : decode cX3_sortPart 72 = .ok (.iconst 1, 1) := by decide +kernel
theorem dX3_sortPart_73 : decode cX3_sortPart 73 = .ok (.isub, 1) := by decide +kernel
theorem dX3_sortPart_74 : decode cX3_sortPart 74 = .ok (.iaload, 1) := by decide +kernel
theorem dX3_sortPart_75 : decode cX3_sortPart 75 = .ok (.iastore, 1) := by decide +kernel
theorem dX3_sortPart_76 : decode cX3_sortPart 76 = .ok (.iinc 7 (-1), 3) := by decide +kernel
theorem dX3_sortPart_79 : decode cX3_sortPart 79 = .ok (.goto (-39), 3) := by decide +kernel
theorem dX3_sortPart_82 : decode cX3_sortPart 82 = .ok (.aload_n 0, 1) := by decide +kernel
theorem dX3_sortPart_83 : decode cX3_sortPart 83 = .ok (.getfield 13, 3) := by decide +kernel
theorem dX3_sortPart_86 : decode cX3_sortPart 86 = .ok (.iload 7, 2) := by decide +kernel
theorem dX3_sortPart_88 : decode cX3_sortPart 88 = .ok (.iload 6, 2) := by decide +kernel
theorem dX3_sortPart_90 : decode cX3_sortPart 90 = .ok (.iastore, 1) := by decide +kernel
theorem dX3_sortPart_91 : decode cX3_sortPart 91 = .ok (.iinc 5 1, 3) := by decide +kernel
theorem dX3_sortPart_94 : decode cX3_sortPart 94 = .ok (.goto (-74), 3) := by decide +kernel
theorem dX3_sortPart_97 : decode cX3_sortPart 97 = .ok (.return_, 1) := by decide +kernel
theorem dX4_init_0 : decode cX4_init 0 = .ok (.aload_n 0, 1) := by decide +kernel
theorem dX4_init_1 : decode cX4_init 1 = .ok (.invokespecial 3, 3) := by decide +kernel
theorem dX4_init_4 : decode cX4_init 4 = .ok (.aload_n 0, 1) := by decide +kernel
theorem dX4_init_5 : decode cX4_init 5 = .ok (.new 9, 3) := by decide +kernel
theorem dX4_init_8 : decode cX4_init 8 = .ok (.dup, 1) := by decide +kernel
theorem dX4_init_9 : decode cX4_init 9 = .ok (.bipush 80, 2) := by decide +kernel
theorem dX4_init_11 : decode cX4_init 11 = .ok (.invokespecial 11, 3) := by decide +kernel
theorem dX4_init_14 : decode cX4_init 14 = .ok (.putfield 14, 3) := by decide +kernel
theorem dX4_init_17 : decode cX4_init 17 = .ok (.aload_n 0, 1) := by decide +kernel
theorem dX4_init_18 : decode cX4_init 18 = .ok (.new 20, 3) := by decide +kernel
theorem dX4_init_21 : decode cX4_init 21 = .ok (.dup, 1) := by decide +kernel
theorem dX4_init_22 : decode cX4_init 22 = .ok (.bipush 80, 2) := by decide +kernel
theorem dX4_init_24 : decode cX4_init 24 = .ok (.invokespecial 22, 3) := by decide +kernel
theorem dX4_init_27 : decode cX4_init 27 = .ok (.putfield 23, 3) := by decide +kernel
theorem dX4_init_30 : decode cX4_init 30 = .ok (.aload_n 0, 1) := by decide +kernel
theorem dX4_init_31 : decode cX4_init 31 = .ok (.new 20, 3) := by decide +kernel
theorem dX4_init_34 : decode cX4_init 34 = .ok (.dup, 1) := by decide +kernel
theorem dX4_init_35 : decode cX4_init 35 = .ok (.bipush 80, 2) := by decide +kernel
theorem dX4_init_37 : decode cX4_init 37 = .ok (.invokespecial 22, 3) := by decide +kernel
theorem dX4_init_40 : decode cX4_init 40 = .ok (.putfield 27, 3) := by decide +kernel
theorem dX4_init_43 : decode cX4_init 43 = .ok (.aload_n 0, 1) := by decide +kernel
theorem dX4_init_44 : decode cX4_init 44 = .ok (.new 20, 3) := by decide +kernel
theorem dX4_init_47 : decode cX4_init 47 = .ok (.dup, 1) := by decide +kernel
theorem dX4_init_48 : decode cX4_init 48 = .ok (.bipush 80, 2) := by decide +kernel
theorem dX4_init_50 : decode cX4_init 50 = .ok (.invokespecial 22, 3) := by decide +kernel
theorem dX4_init_53 : decode cX4_init 53 = .ok (.putfield 30, 3) := by decide +kernel
theorem dX4_init_56 : decode cX4_init 56 = .ok (.aload_n 0, 1) := by decide +kernel
theorem dX4_init_57 : decode cX4_init 57 = .ok (.new 20, 3) := by decide +kernel
theorem dX4_init_60 : decode cX4_init 60 = .ok (.dup, 1) := by decide +kernel
theorem dX4_init_61 : decode cX4_init 61 = .ok (.bipush 80, 2) := by decide +kernel
theorem dX4_init_63 : decode cX4_init 63 = .ok (.invokespecial 22, 3) := by decide +kernel
theorem dX4_init_66 : decode cX4_init 66 = .ok (.putfield 33, 3) := by decide +kernel
theorem dX4_init_69 : decode cX4_init 69 = .ok (.return_, 1) := by decide +kernel
theorem dX4_add_0 : decode cX4_add 0 = .ok (.aload_n 0, 1) := by decide +kernel
theorem dX4_add_1 : decode cX4_add 1 = .ok (.getfield 36, 3) := by decide +kernel
theorem dX4_add_4 : decode cX4_add 4 = .ok (.istore_n 3, 1) := by decide +kernel
theorem dX4_add_5 : decode cX4_add 5 = .ok (.aload_n 0, 1) := by decide +kernel
theorem dX4_add_6 : decode cX4_add 6 = .ok (.getfield 23, 3) := by decide +kernel
theorem dX4_add_9 : decode cX4_add 9 = .ok (.iload_n 3, 1) := by decide +kernel
theorem dX4_add_10 : decode cX4_add 10 = .ok (.iload_n 1, 1) := by decide +kernel
theorem dX4_add_11 : decode cX4_add 11 = .ok (.invokevirtual 40, 3) := by decide +kernel
theorem dX4_add_14 : decode cX4_add 14 = .ok (.aload_n 0, 1) := by decide +kernel
theorem dX4_add_15 : decode cX4_add 15 = .ok (.getfield 27, 3) := by decide +kernel
theorem dX4_add_18 : decode cX4_add 18 = .ok (.iload_n 3, 1) := by decide +kernel
theorem dX4_add_19 : decode cX4_add 19 = .ok (.iload_n 2, 1) := by decide +kernel
theorem dX4_add_20 : decode cX4_add 20 = .ok (.invokevirtual 40, 3) := by decide +kernel
theorem dX4_add_23 : decode cX4_add 23 = .ok (.aload_n 0, 1) := by decide +kernel
theorem dX4_add_24 : decode cX4_add 24 = .ok (.dup, 1) := by decide +kernel
theorem dX4_add_25 : decode cX4_add 25 = .ok (.getfield 36, 3) := by decide +kernel
theorem dX4_add_28 : decode cX4_add 28 = .ok (.iconst 1, 1) := by decide +kernel
theorem dX4_add_29 : decode cX4_add 29 = .ok (.iadd, 1) := by decide +kernel
theorem dX4_add_30 : decode cX4_add 30 = .ok (.putfield 36, 3) := by decide +kernel
theorem dX4_add_33 : decode cX4_add 33 = .ok (.iload_n 3, 1) := by decide +kernel
theorem dX4_add_34 : decode cX4_add 34 = .ok (.ireturn, 1) := by decide +kernel
theorem dX4_isIn_0 : decode cX4_isIn 0 = .ok (.aload_n 0, 1) := by decide +kernel
theorem dX4_isIn_1 : decode cX4_isIn 1 = .ok (.getfield 23, 3) := by decide +kernel
theorem dX4_isIn_4 : decode cX4_isIn 4 = .ok (.iload_n 1, 1) := by decide +kernel
theorem dX4_isIn_5 : decode cX4_isIn 5 = .ok (.invokevirtual 44, 3) := by decide +kernel
theorem dX4_isIn_8 : decode cX4_isIn 8 = .ok (.iload_n 2, 1) := by decide +kernel
theorem dX4_isIn_9 : decode cX4_isIn 9 = .ok (.if_icmp .ne 7, 3) := by decide +kernel
theorem dX4_isIn_12 : decode cX4_isIn 12 = .ok (.iconst 1, 1) := by decide +kernel
theorem dX4_isIn_13 : decode cX4_isIn 13 = .ok (.goto 4, 3) := by decide +kernel
theorem dX4_isIn_16 : decode cX4_isIn 16 = .ok (.iconst 0, 1) := by decide +kernel
theorem dX4_isIn_17 : decode cX4_isIn 17 = .ok (.ireturn, 1) := by decide +kernel
theorem dX4_countIn_0 : decode cX4_countIn 0 = .ok (.iconst 0, 1) := by decide +kernel
theorem dX4_countIn_1 : decode cX4_countIn 1 = .ok (.istore_n 2, 1) := by decide +kernel
theorem dX4_countIn_2 : decode cX4_countIn 2 = .ok (.iconst 0, 1) := by decide +kernel
theorem dX4_countIn_3 : decode cX4_countIn 3 = .ok (.istore_n 3, 1) := by decide +kernel
theorem dX4_countIn_4 : decode cX4_countIn 4 = .ok (.iload_n 3, 1) := by decide +kernel
theorem dX4_countIn_5 : decode cX4_countIn 5 = .ok (.aload_n 0, 1) := by decide +kernel
theorem dX4_countIn_6 : decode cX4_countIn 6 = .ok (.getfield 36, 3) := by decide +kernel
theorem dX4_countIn_9 : decode cX4_countIn 9 = .ok (.if_icmp .ge 21, 3) := by decide +kernel
theorem dX4_countIn_12 : decode cX4_countIn 12 = .ok (.aload_n 0, 1) := by decide +kernel
theorem dX4_countIn_13 : decode cX4_countIn 13 = .ok (.iload_n 3, 1) := by decide +kernel
theorem dX4_countIn_14 : decode cX4_countIn 14 = .ok (.iload_n 1, 1) := by decide +kernel
theorem dX4_countIn_15 : decode cX4_countIn 15 = .ok (.invokevirtual 48, 3) := by decide +kernel
theorem dX4_countIn_18 : decode cX4_countIn 18 = .ok (.ifCond .eq 6, 3) := by decide +kernel
theorem dX4_countIn_21 : decode cX4_countIn 21 = .ok (.iinc 2 1, 3) := by decide +kernel
theorem dX4_countIn_24 : decode cX4_countIn 24 = .ok (.iinc 3 1, 3) := by decide +kernel
theorem dX4_countIn_27 : decode cX4_countIn 27 = .ok (.goto (-23), 3) := by decide +kernel
theorem dX4_countIn_30 : decode cX4_countIn 30 = .ok (.iload_n 2, 1) := by decide +kernel
theorem dX4_countIn_31 : decode cX4_countIn 31 = .ok (.ireturn, 1) := by decide +kernel
theorem dX4_countMeeting_0 : decode cX4_countMeeting 0 = .ok (.iconst 0, 1) := by decide +kernel
theorem dX4_countMeeting_1 : decode cX4_countMeeting 1 = .ok (.istore 6, 2) := by decide +kernel
theorem dX4_countMeeting_3 : decode cX4_countMeeting 3 = .ok (.iconst 0, 1) := by decide +kernel
theorem dX4_countMeeting_4 : decode cX4_countMeeting 4 = .ok (.istore 7, 2) := by decide +kernel
theorem dX4_countMeeting_6 : decode cX4_countMeeting 6 = .ok (.iload 7, 2) := by decide +kernel
theorem dX4_countMeeting_8 : decode cX4_countMeeting 8 = .ok (.aload_n 0, 1) := by decide +kernel
theorem dX4_countMeeting_9 : decode cX4_countMeeting 9 = .ok (.getfield 36, 3) := by decide +kernel
theorem dX4_countMeeting_12 : decode cX4_countMeeting 12 = .ok (.if_icmp .ge 40, 3) := by decide +kernel
theorem dX4_countMeeting_15 : decode cX4_countMeeting 15 = .ok (.aload_n 0, 1) := by decide +kernel
theorem dX4_countMeeting_16 : decode cX4_countMeeting 16 = .ok (.iload 7, 2) := by decide +kernel
theorem dX4_countMeeting_18 : decode cX4_countMeeting 18 = .ok (.iload_n 1, 1) := by decide +kernel
theorem dX4_countMeeting_19 : decode cX4_countMeeting 19 = .ok (.invokevirtual 48, 3) := by decide +kernel
theorem dX4_countMeeting_22 : decode cX4_countMeeting 22 = .ok (.ifCond .eq 24, 3) := by decide +kernel
theorem dX4_countMeeting_25 : decode cX4_countMeeting 25 = .ok (.aload_n 0, 1) := by decide +kernel
theorem dX4_countMeeting_26 : decode cX4_countMeeting 26 = .ok (.getfield 14, 3) := by decide +kernel
theorem dX4_countMeeting_29 : decode cX4_countMeeting 29 = .ok (.iload 7, 2) := by decide +kernel
theorem dX4_countMeeting_31 : decode cX4_countMeeting 31 = .ok (.iload_n 2, 1) := by decide +kernel
theorem dX4_countMeeting_32 : decode cX4_countMeeting 32 = .ok (.iload_n 3, 1) := by decide +kernel
theorem dX4_countMeeting_33 : decode cX4_countMeeting 33 = .ok (.iload 4, 2) := by decide +kernel
theorem dX4_countMeeting_35 : decode cX4_countMeeting 35 = .ok (.iload 5, 2) := by decide +kernel
theorem dX4_countMeeting_37 : decode cX4_countMeeting 37 = .ok (.invokevirtual 52, 3) := by decide +kernel
theorem dX4_countMeeting_40 : decode cX4_countMeeting 40 = .ok (.ifCond .ne 6, 3) := by decide +kernel
theorem dX4_countMeeting_43 : decode cX4_countMeeting 43 = .ok (.iinc 6 1, 3) := by decide +kernel
theorem dX4_countMeeting_46 : decode cX4_countMeeting 46 = .ok (.iinc 7 1, 3) := by decide +kernel
theorem dX4_countMeeting_49 : decode cX4_countMeeting 49 = .ok (.goto (-43), 3) := by decide +kernel
theorem dX4_countMeeting_52 : decode cX4_countMeeting 52 = .ok (.iload 6, 2) := by decide +kernel
theorem dX4_countMeeting_54 : decode cX4_countMeeting 54 = .ok (.ireturn, 1) := by decide +kernel
theorem dX4_sortByFar_0 : decode cX4_sortByFar 0 = .ok (.iconst 0, 1) := by decide +kernel
theorem dX4_sortByFar_1 : decode cX4_sortByFar 1 = .ok (.istore 4, 2) := by decide +kernel
theorem dX4_sortByFar_3 : decode cX4_sortByFar 3 = .ok (.iconst 0, 1) := by decide +kernel
theorem dX4_sortByFar_4 : decode cX4_sortByFar 4 = .ok (.istore 5, 2) := by decide +kernel
theorem dX4_sortByFar_6 : decode cX4_sortByFar 6 = .ok (.iload 5, 2) := by decide +kernel
theorem dX4_sortByFar_8 : decode cX4_sortByFar 8 = .ok (.aload_n 0, 1) := by decide +kernel
theorem dX4_sortByFar_9 : decode cX4_sortByFar 9 = .ok (.getfield 36, 3) := by decide +kernel
theorem dX4_sortByFar_12 : decode cX4_sortByFar 12 = .ok (.if_icmp .ge 51, 3) := by decide +kernel
theorem dX4_sortByFar_15 : decode cX4_sortByFar 15 = .ok (.aload_n 0, 1) := by decide +kernel
theorem dX4_sortByFar_16 : decode cX4_sortByFar 16 = .ok (.iload 5, 2) := by decide +kernel
theorem dX4_sortByFar_18 : decode cX4_sortByFar 18 = .ok (.iload_n 1, 1) := by decide +kernel
theorem dX4_sortByFar_19 : decode cX4_sortByFar 19 = .ok (.invokevirtual 48, 3) := by decide +kernel
theorem dX4_sortByFar_22 : decode cX4_sortByFar 22 = .ok (.ifCond .eq 35, 3) := by decide +kernel
theorem dX4_sortByFar_25 : decode cX4_sortByFar 25 = .ok (.aload_n 0, 1) := by decide +kernel
theorem dX4_sortByFar_26 : decode cX4_sortByFar 26 = .ok (.getfield 30, 3) := by decide +kernel
theorem dX4_sortByFar_29 : decode cX4_sortByFar 29 = .ok (.iload 4, 2) := by decide +kernel
theorem dX4_sortByFar_31 : decode cX4_sortByFar 31 = .ok (.aload_n 0, 1) := by decide +kernel
theorem dX4_sortByFar_32 : decode cX4_sortByFar 32 = .ok (.getfield 14, 3) := by decide +kernel
theorem dX4_sortByFar_35 : decode cX4_sortByFar 35 = .ok (.iload 5, 2) := by decide +kernel
theorem dX4_sortByFar_37 : decode cX4_sortByFar 37 = .ok (.iload_n 2, 1) := by decide +kernel
theorem dX4_sortByFar_38 : decode cX4_sortByFar 38 = .ok (.iload_n 3, 1) := by decide +kernel
theorem dX4_sortByFar_39 : decode cX4_sortByFar 39 = .ok (.iconst 0, 1) := by decide +kernel
theorem dX4_sortByFar_40 : decode cX4_sortByFar 40 = .ok (.iconst 0, 1) := by decide +kernel
theorem dX4_sortByFar_41 : decode cX4_sortByFar 41 = .ok (.invokevirtual 52, 3) := by decide +kernel
theorem dX4_sortByFar_44 : decode cX4_sortByFar 44 = .ok (.sipush 128, 3) := by decide +kernel
theorem dX4_sortByFar_47 : decode cX4_sortByFar 47 = .ok (.imul, 1) := by decide +kernel
theorem dX4_sortByFar_48 : decode cX4_sortByFar 48 = .ok (.iload 5, 2) := by decide +kernel
theorem dX4_sortByFar_50 : decode cX4_sortByFar 50 = .ok (.iadd, 1) := by decide +kernel
theorem dX4_sortByFar_51 : decode cX4_sortByFar 51 = .ok (.invokevirtual 40, 3) := by decide +kernel
theorem dX4_sortByFar_54 : decode cX4_sortByFar 54 = .ok (.iinc 4 1, 3) := by decide +kernel
theorem dX4_sortByFar_57 : decode cX4_sortByFar 57 = .ok (.iinc 5 1, 3) := by decide +kernel
theorem dX4_sortByFar_60 : decode cX4_sortByFar 60 = .ok (.goto (-54), 3) := by decide +kernel
theorem dX4_sortByFar_63 : decode cX4_sortByFar 63 = .ok (.aload_n 0, 1) := by decide +kernel
theorem dX4_sortByFar_64 : decode cX4_sortByFar 64 = .ok (.getfield 30, 3) := by decide +kernel
theorem dX4_sortByFar_67 : decode cX4_sortByFar 67 = .ok (.iconst 0, 1) := by decide +kernel
theorem dX4_sortByFar_68 : decode cX4_sortByFar 68 = .ok (.iload 4, 2) := by decide +kernel
theorem dX4_sortByFar_70 : decode cX4_sortByFar 70 = .ok (.invokevirtual 56, 3) := by decide +kernel
theorem dX4_sortByFar_73 : decode cX4_sortByFar 73 = .ok (.iload 4, 2) := by decide +kernel
theorem dX4_sortByFar_75 : decode cX4_sortByFar 75 = .ok (.ireturn, 1) := by decide +kernel
theorem dX4_countPairs_0 : decode cX4_countPairs 0 = .ok (.iconst 0, 1) := by decide +kernel
theorem dX4_countPairs_1 : decode cX4_countPairs 1 = .ok (.istore 4, 2) := by decide +kernel
theorem dX4_countPairs_3 : decode cX4_countPairs 3 = .ok (.iconst 0, 1) := by decide +kernel
theorem dX4_countPairs_4 : decode cX4_countPairs 4 = .ok (.istore 5, 2) := by decide +kernel
theorem dX4_countPairs_6 : decode cX4_countPairs 6 = .ok (.iload 5, 2) := by decide +kernel
theorem dX4_countPairs_8 : decode cX4_countPairs 8 = .ok (.aload_n 0, 1) := by decide +kernel
theorem dX4_countPairs_9 : decode cX4_countPairs 9 = .ok (.getfield 36, 3) := by decide +kernel
theorem dX4_countPairs_12 : decode cX4_countPairs 12 = .ok (.if_icmp .ge 49, 3) := by decide +kernel
theorem dX4_countPairs_15 : decode cX4_countPairs 15 = .ok (.aload_n 0, 1) := by decide +kernel
theorem dX4_countPairs_16 : decode cX4_countPairs 16 = .ok (.iload 5, 2) := by decide +kernel
theorem dX4_countPairs_18 : decode cX4_countPairs 18 = .ok (.iload_n 1, 1) := by decide +kernel
theorem dX4_countPairs_19 : decode cX4_countPairs 19 = .ok (.invokevirtual 48, 3) := by decide +kernel
theorem dX4_countPairs_22 : decode cX4_countPairs 22 = .ok (.ifCond .eq 33, 3) := by decide +kernel
theorem dX4_countPairs_25 : decode cX4_countPairs 25 = .ok (.iload_n 1, 1) := by decide +kernel
theorem dX4_countPairs_26 : decode cX4_countPairs 26 = .ok (.iload_n 2, 1) := by decide +kernel
theorem dX4_countPairs_27 : decode cX4_countPairs 27 = .ok (.if_icmp .ne 10, 3) := by decide +kernel
theorem dX4_countPairs_30 : decode cX4_countPairs 30 = .ok (.iload 5, 2) := by decide +kernel
theorem dX4_countPairs_32 : decode cX4_countPairs 32 = .ok (.iconst 1, 1) := by decide +kernel
theorem dX4_countPairs_33 : decode cX4_countPairs 33 = .ok (.iadd, 1) := by decide +kernel
theorem dX4_countPairs_34 : decode cX4_countPairs 34 = .ok (.goto 4, 3) := by decide +kernel
theorem dX4_countPairs_37 : decode cX4_countPairs 37 = .ok (.iconst 0, 1) := by decide +kernel
theorem dX4_countPairs_38 : decode cX4_countPairs 38 = .ok (.istore 6, 2) := by decide +kernel
theorem dX4_countPairs_40 : decode cX4_countPairs 40 = .ok (.iload 4, 2) := by decide +kernel
theorem dX4_countPairs_42 : decode cX4_countPairs 42 = .ok (.aload_n 0, 1) := by decide +kernel
theorem dX4_countPairs_43 : decode cX4_countPairs 43 = .ok (.iload 5, 2) := by decide +kernel
theorem dX4_countPairs_45 : decode cX4_countPairs 45 = .ok (.iload 6, 2) := by decide +kernel
theorem dX4_countPairs_47 : decode cX4_countPairs 47 = .ok (.iload_n 2, 1) := by decide +kernel
theorem dX4_countPairs_48 : decode cX4_countPairs 48 = .ok (.iload_n 3, 1) := by decide +kernel
theorem dX4_countPairs_49 : decode cX4_countPairs 49 = .ok (.invokevirtual 59, 3) := by decide +kernel
theorem dX4_countPairs_52 : decode cX4_countPairs 52 = .ok (.iadd, 1) := by decide +kernel
theorem dX4_countPairs_53 : decode cX4_countPairs 53 = .ok (.istore 4, 2) := by decide +kernel
theorem dX4_countPairs_55 : decode cX4_countPairs 55 = .ok (.iinc 5 1, 3) := by decide +kernel
theorem dX4_countPairs_58 : decode cX4_countPairs 58 = .ok (.goto (-52), 3) := by decide +kernel
theorem dX4_countPairs_61 : decode cX4_countPairs 61 = .ok (.iload 4, 2) := by decide +kernel
theorem dX4_countPairs_63 : decode cX4_countPairs 63 = .ok (.ireturn, 1) := by decide +kernel
theorem dX4_countNear_0 : decode cX4_countNear 0 = .ok (.iconst 0, 1) := by decide +kernel
theorem dX4_countNear_1 : decode cX4_countNear 1 = .ok (.istore 5, 2) := by decide +kernel
theorem dX4_countNear_3 : decode cX4_countNear 3 = .ok (.iload_n 2, 1) := by decide +kernel
theorem dX4_countNear_4 : decode cX4_countNear 4 = .ok (.istore 6, 2) := by decide +kernel
theorem dX4_countNear_6 : decode cX4_countNear 6 = .ok (.iload 6, 2) := by decide +kernel
theorem dX4_countNear_8 : decode cX4_countNear 8 = .ok (.aload_n 0, 1) := by decide +kernel
theorem dX4_countNear_9 : decode cX4_countNear 9 = .ok (.getfield 36, 3) := by decide +kernel
theorem dX4_countNear_12 : decode cX4_countNear 12 = .ok (.if_icmp .ge 41, 3) := by decide +kernel
theorem dX4_countNear_15 : decode cX4_countNear 15 = .ok (.aload_n 0, 1) := by decide +kernel
theorem dX4_countNear_16 : decode cX4_countNear 16 = .ok (.iload 6, 2) := by decide +kernel
theorem dX4_countNear_18 : decode cX4_countNear 18 = .ok (.iload_n 3, 1) := by decide +kernel
theorem dX4_countNear_19 : decode cX4_countNear 19 = .ok (.invokevirtual 48, 3) := by decide +kernel
theorem dX4_countNear_22 : decode cX4_countNear 22 = .ok (.ifCond .eq 25, 3) := by decide +kernel
theorem dX4_countNear_25 : decode cX4_countNear 25 = .ok (.aload_n 0, 1) := by decide +kernel
theorem dX4_countNear_26 : decode cX4_countNear 26 = .ok (.getfield 14, 3) := by decide +kernel
theorem dX4_countNear_29 : decode cX4_countNear 29 = .ok (.iload_n 1, 1) := by decide +kernel
theorem dX4_countNear_30 : decode cX4_countNear 30 = .ok (.aload_n 0, 1) := by decide +kernel
theorem dX4_countNear_31 : decode cX4_countNear 31 = .ok (.getfield 14, 3) := by decide +kernel
theorem dX4_countNear_34 : decode cX4_countNear 34 = .ok (.iload 6, 2) := by decide +kernel
theorem dX4_countNear_36 : decode cX4_countNear 36 = .ok (.invokevirtual 63, 3) := by decide +kernel
theorem dX4_countNear_39 : decode cX4_countNear 39 = .ok (.iload 4, 2) := by decide +kernel
theorem dX4_countNear_41 : decode cX4_countNear 41 = .ok (.if_icmp .gt 6, 3) := by decide +kernel
theorem dX4_countNear_44 : decode cX4_countNear 44 = .ok (.iinc 5 1, 3) := by decide +kernel
theorem dX4_countNear_47 : decode cX4_countNear 47 = .ok (.iinc 6 1, 3) := by decide +kernel
theorem dX4_countNear_50 : decode cX4_countNear 50 = .ok (.goto (-44), 3) := by decide +kernel
theorem dX4_countNear_53 : decode cX4_countNear 53 = .ok (.iload 5, 2) := by decide +kernel
theorem dX4_countNear_55 : decode cX4_countNear 55 = .ok (.ireturn, 1) := by decide +kernel
theorem dX4_gatherClusters_0 : decode cX4_gatherClusters 0 = .ok (.iconst 0, 1) := by decide +kernel
theorem dX4_gatherClusters_1 : decode cX4_gatherClusters 1 = .ok (.istore_n 3, 1) := by decide +kernel
theorem dX4_gatherClusters_2 : decode cX4_gatherClusters 2 = .ok (.iload_n 3, 1) := by decide +kernel
theorem dX4_gatherClusters_3 : decode cX4_gatherClusters 3 = .ok (.aload_n 0, 1) := by decide +kernel
theorem dX4_gatherClusters_4 : decode cX4_gatherClusters 4 = .ok (.getfield 36, 3) := by decide +kernel
theorem dX4_gatherClusters_7 : decode cX4_gatherClusters 7 = .ok (.if_icmp .ge 103, 3) := by decide +kernel
theorem dX4_gatherClusters_10 : decode cX4_gatherClusters 10 = .ok (.aload_n 0, 1) := by decide +kernel
theorem dX4_gatherClusters_11 : decode cX4_gatherClusters 11 = .ok (.getfield 33, 3) := by decide +kernel
theorem dX4_gatherClusters_14 : decode cX4_gatherClusters 14 = .ok (.iload_n 3, 1) := by decide +kernel
theorem dX4_gatherClusters_15 : decode cX4_gatherClusters 15 = .ok (.iload_n 3, 1) := by decide +kernel
theorem dX4_gatherClusters_16 : decode cX4_gatherClusters 16 = .ok (.invokevirtual 40, 3) := by decide +kernel
theorem dX4_gatherClusters_19 : decode cX4_gatherClusters 19 = .ok (.iconst 0, 1) := by decide +kernel
theorem dX4_gatherClusters_20 : decode cX4_gatherClusters 20 = .ok (.istore 4, 2) := by decide +kernel
theorem dX4_gatherClusters_22 : decode cX4_gatherClusters 22 = .ok (.iload 4, 2) := by decide +kernel
theorem dX4_gatherClusters_24 : decode cX4_gatherClusters 24 = .ok (.iload_n 3, 1) := by decide +kernel
theorem dX4_gatherClusters_25 : decode cX4_gatherClusters 25 = .ok (.if_icmp .ge 79, 3) := by decide +kernel
theorem dX4_gatherClusters_28 : decode cX4_gatherClusters 28 = .ok (.aload_n 0, 1) := by decide +kernel
theorem dX4_gatherClusters_29 : decode cX4_gatherClusters 29 = .ok (.iload_n 3, 1) := by decide +kernel
theorem dX4_gatherClusters_30 : decode cX4_gatherClusters 30 = .ok (.iload_n 1, 1) := by decide +kernel
theorem dX4_gatherClusters_31 : decode cX4_gatherClusters 31 = .ok (.invokevirtual 48, 3) := by decide +kernel
theorem dX4_gatherClusters_34 : decode cX4_gatherClusters 34 = .ok (.ifCond .eq 17, 3) := by decide +kernel
theorem dX4_gatherClusters_37 : decode cX4_gatherClusters 37 = .ok (.aload_n 0, 1) := by decide +kernel
theorem dX4_gatherClusters_38 : decode cX4_gatherClusters 38 = .ok (.iload 4, 2) := by decide +kernel
theorem dX4_gatherClusters_40 : decode cX4_gatherClusters 40 = .ok (.iload_n 1, 1) := by decide +kernel
theorem dX4_gatherClusters_41 : decode cX4_gatherClusters 41 = .ok (.invokevirtual 48, 3) := by decide +kernel
theorem dX4_gatherClusters_44 : decode cX4_gatherClusters 44 = .ok (.ifCond .eq 7, 3) := by decide +kernel
theorem dX4_gatherClusters_47 : decode cX4_gatherClusters 47 = .ok (.iconst 1, 1) := by decide +kernel
theorem dX4_gatherClusters_48 : decode cX4_gatherClusters 48 = .ok (.goto 4, 3) := by decide +kernel
theorem dX4_gatherClusters_51 : decode cX4_gatherClusters 51 = .ok (.iconst 0, 1) := by decide +kernel
theorem dX4_gatherClusters_52 : decode cX4_gatherClusters 52 = .ok (.istore 5, 2) := by decide +kernel
theorem dX4_gatherClusters_54 : decode cX4_gatherClusters 54 = .ok (.iload 5, 2) := by decide +kernel
theorem dX4_gatherClusters_56 : decode cX4_gatherClusters 56 = .ok (.ifCond .eq 42, 3) := by decide +kernel
theorem dX4_gatherClusters_59 : decode cX4_gatherClusters 59 = .ok (.aload_n 0, 1) := by decide +kernel
theorem dX4_gatherClusters_60 : decode cX4_gatherClusters 60 = .ok (.getfield 14, 3) := by decide +kernel
theorem dX4_gatherClusters_63 : decode cX4_gatherClusters 63 = .ok (.iload_n 3, 1) := by decide +kernel
theorem dX4_gatherClusters_64 : decode cX4_gatherClusters 64 = .ok (.aload_n 0, 1) := by decide +kernel
theorem dX4_gatherClusters_65 : decode cX4_gatherClusters 65 = .ok (.getfield 14, 3) := by decide +kernel
theorem dX4_gatherClusters_68 : decode cX4_gatherClusters 68 = .ok (.iload 4, 2) := by decide +kernel
theorem dX4_gatherClusters_70 : decode cX4_gatherClusters 70 = .ok (.invokevirtual 63, 3) := by decide +kernel
theorem dX4_gatherClusters_73 : decode cX4_gatherClusters 73 = .ok (.iload_n 2, 1) := by decide +kernel
theorem dX4_gatherClusters_74 : decode cX4_gatherClusters 74 = .ok (.if_icmp .gt 24, 3) := by decide +kernel
theorem dX4_gatherClusters_77 : decode cX4_gatherClusters 77 = .ok (.aload_n 0, 1) := by decide +kernel
theorem dX4_gatherClusters_78 : decode cX4_gatherClusters 78 = .ok (.aload_n 0, 1) := by decide +kernel
theorem dX4_gatherClusters_79 : decode cX4_gatherClusters 79 = .ok (.getfield 33, 3) := by decide +kernel
theorem dX4_gatherClusters_82 : decode cX4_gatherClusters 82 = .ok (.iload_n 3, 1) := by decide +kernel
theorem dX4_gatherClusters_83 : decode cX4_gatherClusters 83 = .ok (.invokevirtual 44, 3) := by decide +kernel
theorem dX4_gatherClusters_86 : decode cX4_gatherClusters 86 = .ok (.aload_n 0, 1) := by decide +kernel
theorem dX4_gatherClusters_87 : decode cX4_gatherClusters 87 = .ok (.getfield 33, 3) := by decide +kernel
theorem dX4_gatherClusters_90 : decode cX4_gatherClusters 90 = .ok (.iload 4, 2) := by decide +kernel
theorem dX4_gatherClusters_92 : decode cX4_gatherClusters 92 = .ok (.invokevirtual 44, 3) := by decide +kernel
theorem dX4_gatherClusters_95 : decode cX4_gatherClusters 95 = .ok (.invokevirtual 67, 3) := by decide +kernel
theorem dX4_gatherClusters_98 : decode cX4_gatherClusters 98 = .ok (.iinc 4 1, 3) := by decide +kernel
theorem dX4_gatherClusters_101 : decode cX4_gatherClusters 101 = .ok (.goto (-79), 3) := by decide +kernel
theorem dX4_gatherClusters_104 : decode cX4_gatherClusters 104 = .ok (.iinc 3 1, 3) := by decide +kernel
theorem dX4_gatherClusters_107 : decode cX4_gatherClusters 107 = .ok (.goto (-105), 3) := by decide +kernel
theorem dX4_gatherClusters_110 : decode cX4_gatherClusters 110 = .ok (.return_, 1) := by decide +kernel
theorem dX4_joinClusters_0 : decode cX4_joinClusters 0 = .ok (.iload_n 1, 1) := by decide +kernel
theorem dX4_joinClusters_1 : decode cX4_joinClusters 1 = .ok (.iload_n 2, 1) := by decide +kernel
theorem dX4_joinClusters_2 : decode cX4_joinClusters 2 = .ok (.if_icmp .ne 4, 3) := by decide +kernel
theorem dX4_joinClusters_5 : decode cX4_joinClusters 5 = .ok (.return_, 1) := by decide +kernel
theorem dX4_joinClusters_6 : decode cX4_joinClusters 6 = .ok (.iload_n 1, 1) := by decide +kernel
theorem dX4_joinClusters_7 : decode cX4_joinClusters 7 = .ok (.iload_n 2, 1) := by decide +kernel
theorem dX4_joinClusters_8 : decode cX4_joinClusters 8 = .ok (.invokestatic 70, 3) := by decide +kernel
theorem dX4_joinClusters_11 : decode cX4_joinClusters 11 = .ok (.istore_n 3, 1) := by decide +kernel
theorem dX4_joinClusters_12 : decode cX4_joinClusters 12 = .ok (.iload_n 1, 1) := by decide +kernel
theorem dX4_joinClusters_13 : decode cX4_joinClusters 13 = .ok (.iload_n 2, 1) := by decide +kernel
theorem dX4_joinClusters_14 : decode cX4_joinClusters 14 = .ok (.invokestatic 76, 3) := by decide +kernel
theorem dX4_joinClusters_17 : decode cX4_joinClusters 17 = .ok (.istore 4, 2) := by decide +kernel
theorem dX4_joinClusters_19 : decode cX4_joinClusters 19 = .ok (.iconst 0, 1) := by decide +kernel
theorem dX4_joinClusters_20 : decode cX4_joinClusters 20 = .ok (.istore 5, 2) := by decide +kernel
theorem dX4_joinClusters_22 : decode cX4_joinClusters 22 = .ok (.iload 5, 2) := by decide +kernel
theorem dX4_joinClusters_24 : decode cX4_joinClusters 24 = .ok (.aload_n 0, 1) := by decide +kernel
theorem dX4_joinClusters_25 : decode cX4_joinClusters 25 = .ok (.getfield 36, 3) := by decide +kernel
theorem dX4_joinClusters_28 : decode cX4_joinClusters 28 = .ok (.if_icmp .ge 33, 3) := by decide +kernel
theorem dX4_joinClusters_31 : decode cX4_joinClusters 31 = .ok (.aload_n 0, 1) := by decide +kernel
theorem dX4_joinClusters_32 : decode cX4_joinClusters 32 = .ok (.getfield 33, 3) := by decide +kernel
theorem dX4_joinClusters_35 : decode cX4_joinClusters 35 = .ok (.iload 5, 2) := by decide +kernel
theorem dX4_joinClusters_37 : decode cX4_joinClusters 37 = .ok (.invokevirtual 44, 3) := by decide +kernel
theorem dX4_joinClusters_40 : decode cX4_joinClusters 40 = .ok (.iload 4, 2) := by decide +kernel
theorem dX4_joinClusters_42 : decode cX4_joinClusters 42 = .ok (.if_icmp .ne 13, 3) := by decide +kernel
theorem dX4_joinClusters_45 : decode cX4_joinClusters 45 = .ok (.aload_n 0, 1) := by decide +kernel
theorem dX4_joinClusters_46 : decode cX4_joinClusters 46 = .ok (.getfield 33, 3) := by decide +kernel
theorem dX4_joinClusters_49 : decode cX4_joinClusters 49 = .ok (.iload 5, 2) := by decide +kernel
theorem dX4_joinClusters_51 : decode cX4_joinClusters 51 = .ok (.iload_n 3, 1) := by decide +kernel
theorem dX4_joinClusters_52 : decode cX4_joinClusters 52 = .ok (.invokevirtual 40, 3) := by decide +kernel
theorem dX4_joinClusters_55 : decode cX4_joinClusters 55 = .ok (.iinc 5 1, 3) := by decide +kernel
theorem dX4_joinClusters_58 : decode cX4_joinClusters 58 = .ok (.goto (-36), 3) := by decide +kernel
theorem dX4_joinClusters_61 : decode cX4_joinClusters 61 = .ok (.return_, 1) := by decide +kernel
theorem dX4_countClusters_0 : decode cX4_countClusters 0 = .ok (.iconst 0, 1) := by decide +kernel
theorem dX4_countClusters_1 : decode cX4_countClusters 1 = .ok (.istore_n 2, 1) := by decide +kernel
theorem dX4_countClusters_2 : decode cX4_countClusters 2 = .ok (.iconst 0, 1) := by decide +kernel
theorem dX4_countClusters_3 : decode cX4_countClusters 3 = .ok (.istore_n 3, 1) := by decide +kernel
theorem dX4_countClusters_4 : decode cX4_countClusters 4 = .ok (.iload_n 3, 1) := by decide +kernel
theorem dX4_countClusters_5 : decode cX4_countClusters 5 = .ok (.aload_n 0, 1) := by decide +kernel
theorem dX4_countClusters_6 : decode cX4_countClusters 6 = .ok (.getfield 36, 3) := by decide +kernel
theorem dX4_countClusters_9 : decode cX4_countClusters 9 = .ok (.if_icmp .ge 33, 3) := by decide +kernel
theorem dX4_countClusters_12 : decode cX4_countClusters 12 = .ok (.aload_n 0, 1) := by decide +kernel
theorem dX4_countClusters_13 : decode cX4_countClusters 13 = .ok (.iload_n 3, 1) := by decide +kernel
theorem dX4_countClusters_14 : decode cX4_countClusters 14 = .ok (.iload_n 1, 1) := by decide +kernel
theorem dX4_countClusters_15 : decode cX4_countClusters 15 = .ok (.invokevirtual 48, 3) := by decide +kernel
theorem dX4_countClusters_18 : decode cX4_countClusters 18 = .ok (.ifCond .eq 18, 3) := by decide +kernel
theorem dX4_countClusters_21 : decode cX4_countClusters 21 = .ok (.aload_n 0, 1) := by decide +kernel
theorem dX4_countClusters_22 : decode cX4_countClusters 22 = .ok (.getfield 33, 3) := by decide +kernel
theorem dX4_countClusters_25 : decode cX4_countClusters 25 = .ok (.iload_n 3, 1) := by decide +kernel
theorem dX4_countClusters_26 : decode cX4_countClusters 26 = .ok (.invokevirtual 44, 3) := by decide +kernel
theorem dX4_countClusters_29 : decode cX4_countClusters 29 = .ok (.iload_n 3, 1) := by decide +kernel
theorem dX4_countClusters_30 : decode cX4_countClusters 30 = .ok (.if_icmp .ne 6, 3) := by decide +kernel
theorem dX4_countClusters_33 : decode cX4_countClusters 33 = .ok (.iinc 2 1, 3) := by decide +kernel
theorem dX4_countClusters_36 : decode cX4_countClusters 36 = .ok (.iinc 3 1, 3) := by decide +kernel
theorem dX4_countClusters_39 : decode cX4_countClusters 39 = .ok (.goto (-35), 3) := by decide +kernel
theorem dX4_countClusters_42 : decode cX4_countClusters 42 = .ok (.iload_n 2, 1) := by decide +kernel
theorem dX4_countClusters_43 : decode cX4_countClusters 43 = .ok (.ireturn, 1) := by decide +kernel
theorem dX4_greatestCluster_0 : decode cX4_greatestCluster 0 = .ok (.iconst 0, 1) := by decide +kernel
theorem dX4_greatestCluster_1 : decode cX4_greatestCluster 1 = .ok (.istore_n 2, 1) := by decide +kernel
theorem dX4_greatestCluster_2 : decode cX4_greatestCluster 2 = .ok (.iconst 0, 1) := by decide +kernel
theorem dX4_greatestCluster_3 : decode cX4_greatestCluster 3 = .ok (.istore_n 3, 1) := by decide +kernel
theorem dX4_greatestCluster_4 : decode cX4_greatestCluster 4 = .ok (.iload_n 3, 1) := by decide +kernel
theorem dX4_greatestCluster_5 : decode cX4_greatestCluster 5 = .ok (.aload_n 0, 1) := by decide +kernel
theorem dX4_greatestCluster_6 : decode cX4_greatestCluster 6 = .ok (.getfield 36, 3) := by decide +kernel
theorem dX4_greatestCluster_9 : decode cX4_greatestCluster 9 = .ok (.if_icmp .ge 63, 3) := by decide +kernel
theorem dX4_greatestCluster_12 : decode cX4_greatestCluster 12 = .ok (.iconst 0, 1) := by decide +kernel
theorem dX4_greatestCluster_13 : decode cX4_greatestCluster 13 = .ok (.istore 4, 2) := by decide +kernel
theorem dX4_greatestCluster_15 : decode cX4_greatestCluster 15 = .ok (.iconst 0, 1) := by decide +kernel
theorem dX4_greatestCluster_16 : decode cX4_greatestCluster 16 = .ok (.istore 5, 2) := by decide +kernel
theorem dX4_greatestCluster_18 : decode cX4_greatestCluster 18 = .ok (.iload 5, 2) := by decide +kernel
theorem dX4_greatestCluster_20 : decode cX4_greatestCluster 20 = .ok (.aload_n 0, 1) := by decide +kernel
theorem dX4_greatestCluster_21 : decode cX4_greatestCluster 21 = .ok (.getfield 36, 3) := by decide +kernel
theorem dX4_greatestCluster_24 : decode cX4_greatestCluster 24 = .ok (.if_icmp .ge 35, 3) := by decide +kernel
theorem dX4_greatestCluster_27 : decode cX4_greatestCluster 27 = .ok (.aload_n 0, 1) := by decide +kernel
theorem dX4_greatestCluster_28 : decode cX4_greatestCluster 28 = .ok (.iload 5, 2) := by decide +kernel
theorem dX4_greatestCluster_30 : decode cX4_greatestCluster 30 = .ok (.iload_n 1, 1) := by decide +kernel
theorem dX4_greatestCluster_31 : decode cX4_greatestCluster 31 = .ok (.invokevirtual 48, 3) := by decide +kernel
theorem dX4_greatestCluster_34 : decode cX4_greatestCluster 34 = .ok (.ifCond .eq 19, 3) := by decide +kernel
theorem dX4_greatestCluster_37 : decode cX4_greatestCluster 37 = .ok (.aload_n 0, 1) := by decide +kernel
theorem dX4_greatestCluster_38 : decode cX4_greatestCluster 38 = .ok (.getfield 33, 3) := by decide +kernel
theorem dX4_greatestCluster_41 : decode cX4_greatestCluster 41 = .ok (.iload 5, 2) := by decide +kernel
theorem dX4_greatestCluster_43 : decode cX4_greatestCluster 43 = .ok (.invokevirtual 44, 3) := by decide +kernel
theorem dX4_greatestCluster_46 : decode cX4_greatestCluster 46 = .ok (.iload_n 3, 1) := by decide +kernel
theorem dX4_greatestCluster_47 : decode cX4_greatestCluster 47 = .ok (.if_icmp .ne 6, 3) := by decide +kernel
theorem dX4_greatestCluster_50 : decode cX4_greatestCluster 50 = .ok (.iinc 4 1, 3) := by decide +kernel
theorem dX4_greatestCluster_53 : decode cX4_greatestCluster 53 = .ok (.iinc 5 1, 3) := by decide +kernel
theorem dX4_greatestCluster_56 : decode cX4_greatestCluster 56 = .ok (.goto (-38), 3) := by decide +kernel
theorem dX4_greatestCluster_59 : decode cX4_greatestCluster 59 = .ok (.iload_n 2, 1) := by decide +kernel
theorem dX4_greatestCluster_60 : decode cX4_greatestCluster 60 = .ok (.iload 4, 2) := by decide +kernel
theorem dX4_greatestCluster_62 : decode cX4_greatestCluster 62 = .ok (.invokestatic 76, 3) := by decide +kernel
theorem dX4_greatestCluster_65 : decode cX4_greatestCluster 65 = .ok (.istore_n 2, 1) := by decide +kernel
theorem dX4_greatestCluster_66 : decode cX4_greatestCluster 66 = .ok (.iinc 3 1, 3) := by decide +kernel
theorem dX4_greatestCluster_69 : decode cX4_greatestCluster 69 = .ok (.goto (-65), 3) := by decide +kernel
theorem dX4_greatestCluster_72 : decode cX4_greatestCluster 72 = .ok (.iload_n 2, 1) := by decide +kernel
theorem dX4_greatestCluster_73 : decode cX4_greatestCluster 73 = .ok (.ireturn, 1) := by decide +kernel
theorem dX5_init_0 : decode cX5_init 0 = .ok (.aload_n 0, 1) := by decide +kernel
theorem dX5_init_1 : decode cX5_init 1 = .ok (.invokespecial 3, 3) := by decide +kernel
theorem dX5_init_4 : decode cX5_init 4 = .ok (.aload_n 0, 1) := by decide +kernel
theorem dX5_init_5 : decode cX5_init 5 = .ok (.new 9, 3) := by decide +kernel
theorem dX5_init_8 : decode cX5_init 8 = .ok (.dup, 1) := by decide +kernel
theorem dX5_init_9 : decode cX5_init 9 = .ok (.sipush 1205, 3) := by decide +kernel
theorem dX5_init_12 : decode cX5_init 12 = .ok (.invokespecial 11, 3) := by decide +kernel
theorem dX5_init_15 : decode cX5_init 15 = .ok (.putfield 14, 3) := by decide +kernel
theorem dX5_init_18 : decode cX5_init 18 = .ok (.aload_n 0, 1) := by decide +kernel
theorem dX5_init_19 : decode cX5_init 19 = .ok (.new 20, 3) := by decide +kernel
theorem dX5_init_22 : decode cX5_init 22 = .ok (.dup, 1) := by decide +kernel
theorem dX5_init_23 : decode cX5_init 23 = .ok (.sipush 1205, 3) := by decide +kernel
theorem dX5_init_26 : decode cX5_init 26 = .ok (.invokespecial 22, 3) := by decide +kernel
theorem dX5_init_29 : decode cX5_init 29 = .ok (.putfield 23, 3) := by decide +kernel
theorem dX5_init_32 : decode cX5_init 32 = .ok (.aload_n 0, 1) := by decide +kernel
theorem dX5_init_33 : decode cX5_init 33 = .ok (.new 20, 3) := by decide +kernel
theorem dX5_init_36 : decode cX5_init 36 = .ok (.dup, 1) := by decide +kernel
theorem dX5_init_37 : decode cX5_init 37 = .ok (.sipush 1205, 3) := by decide +kernel
theorem dX5_init_40 : decode cX5_init 40 = .ok (.invokespecial 22, 3) := by decide +kernel
theorem dX5_init_43 : decode cX5_init 43 = .ok (.putfield 27, 3) := by decide +kernel
theorem dX5_init_46 : decode cX5_init 46 = .ok (.aload_n 0, 1) := by decide +kernel
theorem dX5_init_47 : decode cX5_init 47 = .ok (.new 20, 3) := by decide +kernel
theorem dX5_init_50 : decode cX5_init 50 = .ok (.dup, 1) := by decide +kernel
theorem dX5_init_51 : decode cX5_init 51 = .ok (.sipush 1205, 3) := by decide +kernel
theorem dX5_init_54 : decode cX5_init 54 = .ok (.invokespecial 22, 3) := by decide +kernel
theorem dX5_init_57 : decode cX5_init 57 = .ok (.putfield 30, 3) := by decide +kernel
theorem dX5_init_60 : decode cX5_init 60 = .ok (.aload_n 0, 1) := by decide +kernel
theorem dX5_init_61 : decode cX5_init 61 = .ok (.new 20, 3) := by decide +kernel
theorem dX5_init_64 : decode cX5_init 64 = .ok (.dup, 1) := by decide +kernel
theorem dX5_init_65 : decode cX5_init 65 = .ok (.sipush 1205, 3) := by decide +kernel
theorem dX5_init_68 : decode cX5_init 68 = .ok (.invokespecial 22, 3) := by decide +kernel
theorem dX5_init_71 : decode cX5_init 71 = .ok (.putfield 33, 3) := by decide +kernel
theorem dX5_init_74 : decode cX5_init 74 = .ok (.aload_n 0, 1) := by decide +kernel
theorem dX5_init_75 : decode cX5_init 75 = .ok (.new 20, 3) := by decide +kernel
theorem dX5_init_78 : decode cX5_init 78 = .ok (.dup, 1) := by decide +kernel
theorem dX5_init_79 : decode cX5_init 79 = .ok (.sipush 1205, 3) := by decide +kernel
theorem dX5_init_82 : decode cX5_init 82 = .ok (.invokespecial 22, 3) := by decide +kernel
theorem dX5_init_85 : decode cX5_init 85 = .ok (.putfield 36, 3) := by decide +kernel
theorem dX5_init_88 : decode cX5_init 88 = .ok (.aload_n 0, 1) := by decide +kernel
theorem dX5_init_89 : decode cX5_init 89 = .ok (.new 20, 3) := by decide +kernel
theorem dX5_init_92 : decode cX5_init 92 = .ok (.dup, 1) := by decide +kernel
theorem dX5_init_93 : decode cX5_init 93 = .ok (.bipush 80, 2) := by decide +kernel
theorem dX5_init_95 : decode cX5_init 95 = .ok (.invokespecial 22, 3) := by decide +kernel
theorem dX5_init_98 : decode cX5_init 98 = .ok (.putfield 39, 3) := by decide +kernel
theorem dX5_init_101 : decode cX5_init 101 = .ok (.aload_n 0, 1) := by decide +kernel
theorem dX5_init_102 : decode cX5_init 102 = .ok (.new 20, 3) := by decide +kernel
theorem dX5_init_105 : decode cX5_init 105 = .ok (.dup, 1) := by decide +kernel
theorem dX5_init_106 : decode cX5_init 106 = .ok (.bipush 80, 2) := by decide +kernel
theorem dX5_init_108 : decode cX5_init 108 = .ok (.invokespecial 22, 3) := by decide +kernel
theorem dX5_init_111 : decode cX5_init 111 = .ok (.putfield 42, 3) := by decide +kernel
theorem dX5_init_114 : decode cX5_init 114 = .ok (.aload_n 0, 1) := by decide +kernel
theorem dX5_init_115 : decode cX5_init 115 = .ok (.getfield 39, 3) := by decide +kernel
theorem dX5_init_118 : decode cX5_init 118 = .ok (.iconst (-1), 1) := by decide +kernel
theorem dX5_init_119 : decode cX5_init 119 = .ok (.invokevirtual 45, 3) := by decide +kernel
theorem dX5_init_122 : decode cX5_init 122 = .ok (.return_, 1) := by decide +kernel
theorem dX5_isLeaf_0 : decode cX5_isLeaf 0 = .ok (.aload_n 0, 1) := by decide +kernel
theorem dX5_isLeaf_1 : decode cX5_isLeaf 1 = .ok (.getfield 33, 3) := by decide +kernel
theorem dX5_isLeaf_4 : decode cX5_isLeaf 4 = .ok (.iload_n 1, 1) := by decide +kernel
theorem dX5_isLeaf_5 : decode cX5_isLeaf 5 = .ok (.invokevirtual 48, 3) := by decide +kernel
theorem dX5_isLeaf_8 : decode cX5_isLeaf 8 = .ok (.ifCond .ne 7, 3) := by decide +kernel
theorem dX5_isLeaf_11 : decode cX5_isLeaf 11 = .ok (.iconst 1, 1) := by decide +kernel
theorem dX5_isLeaf_12 : decode cX5_isLeaf 12 = .ok (.goto 4, 3) := by decide +kernel
theorem dX5_isLeaf_15 : decode cX5_isLeaf 15 = .ok (.iconst 0, 1) := by decide +kernel
theorem dX5_isLeaf_16 : decode cX5_isLeaf 16 = .ok (.ireturn, 1) := by decide +kernel
theorem dX5_belowAt_0 : decode cX5_belowAt 0 = .ok (.aload_n 0, 1) := by decide +kernel
theorem dX5_belowAt_1 : decode cX5_belowAt 1 = .ok (.getfield 36, 3) := by decide +kernel
theorem dX5_belowAt_4 : decode cX5_belowAt 4 = .ok (.aload_n 0, 1) := by decide +kernel
theorem dX5_belowAt_5 : decode cX5_belowAt 5 = .ok (.getfield 30, 3) := by decide +kernel
theorem dX5_belowAt_8 : decode cX5_belowAt 8 = .ok (.iload_n 1, 1) := by decide +kernel
theorem dX5_belowAt_9 : decode cX5_belowAt 9 = .ok (.invokevirtual 48, 3) := by decide +kernel
theorem dX5_belowAt_12 : decode cX5_belowAt 12 = .ok (.iload_n 2, 1) := by decide +kernel
theorem dX5_belowAt_13 : decode cX5_belowAt 13 = .ok (.iadd, 1) := by decide +kernel
theorem dX5_belowAt_14 : decode cX5_belowAt 14 = .ok (.invokevirtual 48, 3) := by decide +kernel
theorem dX5_belowAt_17 : decode cX5_belowAt 17 = .ok (.ireturn, 1) := by decide +kernel
theorem dX5_countLevels_0 : decode cX5_countLevels 0 = .ok (.aload_n 0, 1) := by decide +kernel
theorem dX5_countLevels_1 : decode cX5_countLevels 1 = .ok (.getfield 52, 3) := by decide +kernel
theorem dX5_countLevels_4 : decode cX5_countLevels 4 = .ok (.ifCond .ne 7, 3) := by decide +kernel
theorem dX5_countLevels_7 : decode cX5_countLevels 7 = .ok (.iconst 0, 1) := by decide +kernel
theorem dX5_countLevels_8 : decode cX5_countLevels 8 = .ok (.goto 18, 3) := by decide +kernel
theorem dX5_countLevels_11 : decode cX5_countLevels 11 = .ok (.aload_n 0, 1) := by decide +kernel
theorem dX5_countLevels_12 : decode cX5_countLevels 12 = .ok (.getfield 23, 3) := by decide +kernel
theorem dX5_countLevels_15 : decode cX5_countLevels 15 = .ok (.aload_n 0, 1) := by decide +kernel
theorem dX5_countLevels_16 : decode cX5_countLevels 16 = .ok (.getfield 52, 3) := by decide +kernel
theorem dX5_countLevels_19 : decode cX5_countLevels 19 = .ok (.iconst 1, 1) := by decide +kernel
theorem dX5_countLevels_20 : decode cX5_countLevels 20 = .ok (.isub, 1) := by decide +kernel
theorem dX5_countLevels_21 : decode cX5_countLevels 21 = .ok (.invokevirtual 48, 3) := by decide +kernel
theorem dX5_countLevels_24 : decode cX5_countLevels 24 = .ok (.iconst 1, 1) := by decide +kernel
theorem dX5_countLevels_25 : decode cX5_countLevels 25 = .ok (.iadd, 1) := by decide +kernel
theorem dX5_countLevels_26 : decode cX5_countLevels 26 = .ok (.ireturn, 1) := by decide +kernel
theorem dX5_firstOnLevel_0 : decode cX5_firstOnLevel 0 = .ok (.iconst 0, 1) := by decide +kernel
theorem dX5_firstOnLevel_1 : decode cX5_firstOnLevel 1 = .ok (.istore_n 2, 1) := by decide +kernel
theorem dX5_firstOnLevel_2 : decode cX5_firstOnLevel 2 = .ok (.iload_n 2, 1) := by decide +kernel
theorem dX5_firstOnLevel_3 : decode cX5_firstOnLevel 3 = .ok (.aload_n 0, 1) := by decide +kernel
theorem dX5_firstOnLevel_4 : decode cX5_firstOnLevel 4 = .ok (.getfield 52, 3) := by decide +kernel
theorem dX5_firstOnLevel_7 : decode cX5_firstOnLevel 7 = .ok (.if_icmp .ge 21, 3) := by decide +kernel
theorem dX5_firstOnLevel_10 : decode cX5_firstOnLevel 10 = .ok (.aload_n 0, 1) := by decide +kernel
theorem dX5_firstOnLevel_11 : decode cX5_firstOnLevel 11 = .ok (.getfield 23, 3) := by decide +kernel
theorem dX5_firstOnLevel_14 : decode cX5_firstOnLevel 14 = .ok (.iload_n 2, 1) := by decide +kernel
theorem dX5_firstOnLevel_15 : decode cX5_firstOnLevel 15 = .ok (.invokevirtual 48, 3) := by decide +kernel
theorem dX5_firstOnLevel_18 : decode cX5_firstOnLevel 18 = .ok (.iload_n 1, 1) := by decide +kernel
theorem dX5_firstOnLevel_19 : decode cX5_firstOnLevel 19 = .ok (.if_icmp .ge 9, 3) := by decide +kernel
theorem dX5_firstOnLevel_22 : decode cX5_firstOnLevel 22 = .ok (.iinc 2 1, 3) := by decide +kernel
theorem dX5_firstOnLevel_25 : decode cX5_firstOnLevel 25 = .ok (.goto (-23), 3) := by decide +kernel
theorem dX5_firstOnLevel_28 : decode cX5_firstOnLevel 28 = .ok (.iload_n 2, 1) := by decide +kernel
theorem dX5_firstOnLevel_29 : decode cX5_firstOnLevel 29 = .ok (.ireturn, 1) := by decide +kernel
theorem dX5_countOnLevel_0 : decode cX5_countOnLevel 0 = .ok (.iconst 0, 1) := by decide +kernel
theorem dX5_countOnLevel_1 : decode cX5_countOnLevel 1 = .ok (.istore_n 2, 1) := by decide +kernel
theorem dX5_countOnLevel_2 : decode cX5_countOnLevel 2 = .ok (.iconst 0, 1) := by decide +kernel
theorem dX5_countOnLevel_3 : decode cX5_countOnLevel 3 = .ok (.istore_n 3, 1) := by decide +kernel
theorem dX5_countOnLevel_4 : decode cX5_countOnLevel 4 = .ok (.iload_n 3, 1) := by decide +kernel
theorem dX5_countOnLevel_5 : decode cX5_countOnLevel 5 = .ok (.aload_n 0, 1) := by decide +kernel
theorem dX5_countOnLevel_6 : decode cX5_countOnLevel 6 = .ok (.getfield 52, 3) := by decide +kernel
theorem dX5_countOnLevel_9 : decode cX5_countOnLevel 9 = .ok (.if_icmp .ge 24, 3) := by decide +kernel
theorem dX5_countOnLevel_12 : decode cX5_countOnLevel 12 = .ok (.aload_n 0, 1) := by decide +kernel
theorem dX5_countOnLevel_13 : decode cX5_countOnLevel 13 = .ok (.getfield 23, 3) := by decide +kernel
theorem dX5_countOnLevel_16 : decode cX5_countOnLevel 16 = .ok (.iload_n 3, 1) := by decide +kernel
theorem dX5_countOnLevel_17 : decode cX5_countOnLevel 17 = .ok (.invokevirtual 48, 3) := by decide +kernel
theorem dX5_countOnLevel_20 : decode cX5_countOnLevel 20 = .ok (.iload_n 1, 1) := by decide +kernel
theorem dX5_countOnLevel_21 : decode cX5_countOnLevel 21 = .ok (.if_icmp .ne 6, 3) := by decide +kernel
theorem dX5_countOnLevel_24 : decode cX5_countOnLevel 24 = .ok (.iinc 2 1, 3) := by decide +kernel
theorem dX5_countOnLevel_27 : decode cX5_countOnLevel 27 = .ok (.iinc 3 1, 3) := by decide +kernel
theorem dX5_countOnLevel_30 : decode cX5_countOnLevel 30 = .ok (.goto (-26), 3) := by decide +kernel
theorem dX5_countOnLevel_33 : decode cX5_countOnLevel 33 = .ok (.iload_n 2, 1) := by decide +kernel
theorem dX5_countOnLevel_34 : decode cX5_countOnLevel 34 = .ok (.ireturn, 1) := by decide +kernel
theorem dX5_countVisited_0 : decode cX5_countVisited 0 = .ok (.iconst 0, 1) := by decide +kernel
theorem dX5_countVisited_1 : decode cX5_countVisited 1 = .ok (.istore 6, 2) := by decide +kernel
theorem dX5_countVisited_3 : decode cX5_countVisited 3 = .ok (.iconst 0, 1) := by decide +kernel
theorem dX5_countVisited_4 : decode cX5_countVisited 4 = .ok (.istore 7, 2) := by decide +kernel
theorem dX5_countVisited_6 : decode cX5_countVisited 6 = .ok (.iload 7, 2) := by decide +kernel
theorem dX5_countVisited_8 : decode cX5_countVisited 8 = .ok (.aload_n 0, 1) := by decide +kernel
theorem dX5_countVisited_9 : decode cX5_countVisited 9 = .ok (.getfield 52, 3) := by decide +kernel
theorem dX5_countVisited_12 : decode cX5_countVisited 12 = .ok (.if_icmp .ge 31, 3) := by decide +kernel
theorem dX5_countVisited_15 : decode cX5_countVisited 15 = .ok (.aload_n 0, 1) := by decide +kernel
theorem dX5_countVisited_16 : decode cX5_countVisited 16 = .ok (.getfield 14, 3) := by decide +kernel
theorem dX5_countVisited_19 : decode cX5_countVisited 19 = .ok (.iload 7, 2) := by decide +kernel
theorem dX5_countVisited_21 : decode cX5_countVisited 21 = .ok (.iload_n 1, 1) := by decide +kernel
theorem dX5_countVisited_22 : decode cX5_countVisited 22 = .ok (.iload_n 2, 1) := by decide +kernel
theorem dX5_countVisited_23 : decode cX5_countVisited 23 = .ok (.iload_n 3, 1) := by decide +kernel
theorem dX5_countVisited_24 : decode cX5_countVisited 24 = .ok (.iload 4, 2) := by decide +kernel
theorem dX5_countVisited_26 : decode cX5_countVisited 26 = .ok (.invokevirtual 56, 3) := by decide +kernel
theorem dX5_countVisited_29 : decode cX5_countVisited 29 = .ok (.iload 5, 2) := by decide +kernel
theorem dX5_countVisited_31 : decode cX5_countVisited 31 = .ok (.if_icmp .gt 6, 3) := by decide +kernel
theorem dX5_countVisited_34 : decode cX5_countVisited 34 = .ok (.iinc 6 1, 3) := by decide +kernel
theorem dX5_countVisited_37 : decode cX5_countVisited 37 = .ok (.iinc 7 1, 3) := by decide +kernel
theorem dX5_countVisited_40 : decode cX5_countVisited 40 = .ok (.goto (-34), 3) := by decide +kernel
theorem dX5_countVisited_43 : decode cX5_countVisited 43 = .ok (.iload 6, 2) := by decide +kernel
theorem dX5_countVisited_45 : decode cX5_countVisited 45 = .ok (.ireturn, 1) := by decide +kernel
theorem dX5_leafAt_0 : decode cX5_leafAt 0 = .ok (.aload_n 0, 1) := by decide +kernel
theorem dX5_leafAt_1 : decode cX5_leafAt 1 = .ok (.getfield 60, 3) := by decide +kernel
theorem dX5_leafAt_4 : decode cX5_leafAt 4 = .ok (.istore_n 3, 1) := by decide +kernel
theorem dX5_leafAt_5 : decode cX5_leafAt 5 = .ok (.iconst 0, 1) := by decide +kernel
theorem dX5_leafAt_6 : decode cX5_leafAt 6 = .ok (.istore 4, 2) := by decide +kernel
theorem dX5_leafAt_8 : decode cX5_leafAt 8 = .ok (.iload 4, 2) := by decide +kernel
theorem dX5_leafAt_10 : decode cX5_leafAt 10 = .ok (.bipush 11, 2) := by decide +kernel
theorem dX5_leafAt_12 : decode cX5_leafAt 12 = .ok (.if_icmp .ge 30, 3) := by decide +kernel
theorem dX5_leafAt_15 : decode cX5_leafAt 15 = .ok (.aload_n 0, 1) := by decide +kernel
theorem dX5_leafAt_16 : decode cX5_leafAt 16 = .ok (.iload_n 3, 1) := by decide +kernel
theorem dX5_leafAt_17 : decode cX5_leafAt 17 = .ok (.invokevirtual 63, 3) := by decide +kernel
theorem dX5_leafAt_20 : decode cX5_leafAt 20 = .ok (.ifCond .ne 22, 3) := by decide +kernel
theorem dX5_leafAt_23 : decode cX5_leafAt 23 = .ok (.aload_n 0, 1) := by decide +kernel
theorem dX5_leafAt_24 : decode cX5_leafAt 24 = .ok (.iload_n 3, 1) := by decide +kernel
theorem dX5_leafAt_25 : decode cX5_leafAt 25 = .ok (.aload_n 0, 1) := by decide +kernel
theorem dX5_leafAt_26 : decode cX5_leafAt 26 = .ok (.iload_n 3, 1) := by decide +kernel
theorem dX5_leafAt_27 : decode cX5_leafAt 27 = .ok (.iload_n 1, 1) := by decide +kernel
theorem dX5_leafAt_28 : decode cX5_leafAt 28 = .ok (.iload_n 2, 1) := by decide +kernel
theorem dX5_leafAt_29 : decode cX5_leafAt 29 = .ok (.invokevirtual 67, 3) := by decide +kernel
theorem dX5_leafAt_32 : decode cX5_leafAt 32 = .ok (.invokevirtual 71, 3) := by decide +kernel
theorem dX5_leafAt_35 : decode cX5_leafAt 35 = .ok (.istore_n 3, 1) := by decide +kernel
theorem dX5_leafAt_36 : decode cX5_leafAt 36 = .ok (.iinc 4 1, 3) := by decide +kernel
theorem dX5_leafAt_39 : decode cX5_leafAt 39 = .ok (.goto (-31), 3) := by decide +kernel
theorem dX5_leafAt_42 : decode cX5_leafAt 42 = .ok (.iload_n 3, 1) := by decide +kernel
theorem dX5_leafAt_43 : decode cX5_leafAt 43 = .ok (.ireturn, 1) := by decide +kernel
theorem dX5_quarterOf_0 : decode cX5_quarterOf 0 = .ok (.aload_n 0, 1) := by decide +kernel
theorem dX5_quarterOf_1 : decode cX5_quarterOf 1 = .ok (.iload_n 1, 1) := by decide +kernel
theorem dX5_quarterOf_2 : decode cX5_quarterOf 2 = .ok (.invokevirtual 75, 3) := by decide +kernel
theorem dX5_quarterOf_5 : decode cX5_quarterOf 5 = .ok (.istore 4, 2) := by decide +kernel
theorem dX5_quarterOf_7 : decode cX5_quarterOf 7 = .ok (.iload_n 2, 1) := by decide +kernel
theorem dX5_quarterOf_8 : decode cX5_quarterOf 8 = .ok (.aload_n 0, 1) := by decide +kernel
theorem dX5_quarterOf_9 : decode cX5_quarterOf 9 = .ok (.getfield 14, 3) := by decide +kernel
theorem dX5_quarterOf_12 : decode cX5_quarterOf 12 = .ok (.getfield 78, 3) := by decide +kernel
theorem dX5_quarterOf_15 : decode cX5_quarterOf 15 = .ok (.iload_n 1, 1) := by decide +kernel
theorem dX5_quarterOf_16 : decode cX5_quarterOf 16 = .ok (.invokevirtual 48, 3) := by decide +kernel
theorem dX5_quarterOf_19 : decode cX5_quarterOf 19 = .ok (.iload 4, 2) := by decide +kernel
theorem dX5_quarterOf_21 : decode cX5_quarterOf 21 = .ok (.iadd, 1) := by decide +kernel
theorem dX5_quarterOf_22 : decode cX5_quarterOf 22 = .ok (.if_icmp .lt 7, 3) := by decide +kernel
theorem dX5_quarterOf_25 : decode cX5_quarterOf 25 = .ok (.iconst 1, 1) := by decide +kernel
theorem dX5_quarterOf_26 : decode cX5_quarterOf 26 = .ok (.goto 4, 3) := by decide +kernel
theorem dX5_quarterOf_29 : decode cX5_quarterOf 29 = .ok (.iconst 0, 1) := by decide +kernel
theorem dX5_quarterOf_30 : decode cX5_quarterOf 30 = .ok (.istore 5, 2) := by decide +kernel
theorem dX5_quarterOf_32 : decode cX5_quarterOf 32 = .ok (.iload_n 3, 1) := by decide +kernel
theorem dX5_quarterOf_33 : decode cX5_quarterOf 33 = .ok (.aload_n 0, 1) := by decide +kernel
theorem dX5_quarterOf_34 : decode cX5_quarterOf 34 = .ok (.getfield 14, 3) := by decide +kernel
theorem dX5_quarterOf_37 : decode cX5_quarterOf 37 = .ok (.getfield 81, 3) := by decide +kernel
theorem dX5_quarterOf_40 : decode cX5_quarterOf 40 = .ok (.iload_n 1, 1) := by decide +kernel
theorem dX5_quarterOf_41 : decode cX5_quarterOf 41 = .ok (.invokevirtual 48, 3) := by decide +kernel
theorem dX5_quarterOf_44 : decode cX5_quarterOf 44 = .ok (.iload 4, 2) := by decide +kernel
theorem dX5_quarterOf_46 : decode cX5_quarterOf 46 = .ok (.iadd, 1) := by decide +kernel
theorem dX5_quarterOf_47 : decode cX5_quarterOf 47 = .ok (.if_icmp .lt 7, 3) := by decide +kernel
theorem dX5_quarterOf_50 : decode cX5_quarterOf 50 = .ok (.iconst 2, 1) := by decide +kernel
theorem dX5_quarterOf_51 : decode cX5_quarterOf 51 = .ok (.goto 4, 3) := by decide +kernel
theorem dX5_quarterOf_54 : decode cX5_quarterOf 54 = .ok (.iconst 0, 1) := by decide +kernel
theorem dX5_quarterOf_55 : decode cX5_quarterOf 55 = .ok (.istore 6, 2) := by decide +kernel
theorem dX5_quarterOf_57 : decode cX5_quarterOf 57 = .ok (.iload 5, 2) := by decide +kernel
theorem dX5_quarterOf_59 : decode cX5_quarterOf 59 = .ok (.iload 6, 2) := by decide +kernel
theorem dX5_quarterOf_61 : decode cX5_quarterOf 61 = .ok (.iadd, 1) := by decide +kernel
theorem dX5_quarterOf_62 : decode cX5_quarterOf 62 = .ok (.ireturn, 1) := by decide +kernel
theorem dX5_halfSide_0 : decode cX5_halfSide 0 = .ok (.aload_n 0, 1) := by decide +kernel
theorem dX5_halfSide_1 : decode cX5_halfSide 1 = .ok (.getfield 14, 3) := by decide +kernel
theorem dX5_halfSide_4 : decode cX5_halfSide 4 = .ok (.getfield 84, 3) := by decide +kernel
theorem dX5_halfSide_7 : decode cX5_halfSide 7 = .ok (.iload_n 1, 1) := by decide +kernel
theorem dX5_halfSide_8 : decode cX5_halfSide 8 = .ok (.invokevirtual 48, 3) := by decide +kernel
theorem dX5_halfSide_11 : decode cX5_halfSide 11 = .ok (.iconst 1, 1) := by decide +kernel
theorem dX5_halfSide_12 : decode cX5_halfSide 12 = .ok (.iadd, 1) := by decide +kernel
theorem dX5_halfSide_13 : decode cX5_halfSide 13 = .ok (.iconst 2, 1) := by decide +kernel
theorem dX5_halfSide_14 : decode cX5_halfSide 14 = .ok (.idiv, 1) := by decide +kernel
theorem dX5_halfSide_15 : decode cX5_halfSide 15 = .ok (.ireturn, 1) := by decide +kernel
theorem dX5_fell_0 : decode cX5_fell 0 = .ok (.aload_n 0, 1) := by decide +kernel
theorem dX5_fell_1 : decode cX5_fell 1 = .ok (.iconst 0, 1) := by decide +kernel
theorem dX5_fell_2 : decode cX5_fell 2 = .ok (.putfield 52, 3) := by decide +kernel
theorem dX5_fell_5 : decode cX5_fell 5 = .ok (.aload_n 0, 1) := by decide +kernel
theorem dX5_fell_6 : decode cX5_fell 6 = .ok (.iconst 0, 1) := by decide +kernel
theorem dX5_fell_7 : decode cX5_fell 7 = .ok (.putfield 60, 3) := by decide +kernel
theorem dX5_fell_10 : decode cX5_fell 10 = .ok (.aload_n 0, 1) := by decide +kernel
theorem dX5_fell_11 : decode cX5_fell 11 = .ok (.getfield 39, 3) := by decide +kernel
theorem dX5_fell_14 : decode cX5_fell 14 = .ok (.iconst (-1), 1) := by decide +kernel
theorem dX5_fell_15 : decode cX5_fell 15 = .ok (.invokevirtual 45, 3) := by decide +kernel
theorem dX5_fell_18 : decode cX5_fell 18 = .ok (.return_, 1) := by decide +kernel
theorem dX5_addNode_0 : decode cX5_addNode 0 = .ok (.aload_n 0, 1) := by decide +kernel
theorem dX5_addNode_1 : decode cX5_addNode 1 = .ok (.getfield 52, 3) := by decide +kernel
theorem dX5_addNode_4 : decode cX5_addNode 4 = .ok (.istore_n 2, 1) := by decide +kernel
theorem dX5_addNode_5 : decode cX5_addNode 5 = .ok (.aload_n 0, 1) := by decide +kernel
theorem dX5_addNode_6 : decode cX5_addNode 6 = .ok (.getfield 23, 3) := by decide +kernel
theorem dX5_addNode_9 : decode cX5_addNode 9 = .ok (.iload_n 2, 1) := by decide +kernel
theorem dX5_addNode_10 : decode cX5_addNode 10 = .ok (.iload_n 1, 1) := by decide +kernel
theorem dX5_addNode_11 : decode cX5_addNode 11 = .ok (.invokevirtual 87, 3) := by decide +kernel
theorem dX5_addNode_14 : decode cX5_addNode 14 = .ok (.aload_n 0, 1) := by decide +kernel
theorem dX5_addNode_15 : decode cX5_addNode 15 = .ok (.getfield 27, 3) := by decide +kernel
theorem dX5_addNode_18 : decode cX5_addNode 18 = .ok (.iload_n 2, 1) := by decide +kernel
theorem dX5_addNode_19 : decode cX5_addNode 19 = .ok (.iconst 0, 1) := by decide +kernel
theorem dX5_addNode_20 : decode cX5_addNode 20 = .ok (.invokevirtual 87, 3) := by decide +kernel
theorem dX5_addNode_23 : decode cX5_addNode 23 = .ok (.aload_n 0, 1) := by decide +kernel
theorem dX5_addNode_24 : decode cX5_addNode 24 = .ok (.getfield 33, 3) := by decide +kernel
theorem dX5_addNode_27 : decode cX5_addNode 27 = .ok (.iload_n 2, 1) := by decide +kernel
theorem dX5_addNode_28 : decode cX5_addNode 28 = .ok (.iconst 0, 1) := by decide +kernel
theorem dX5_addNode_29 : decode cX5_addNode 29 = .ok (.invokevirtual 87, 3) := by decide +kernel
theorem dX5_addNode_32 : decode cX5_addNode 32 = .ok (.aload_n 0, 1) := by decide +kernel
theorem dX5_addNode_33 : decode cX5_addNode 33 = .ok (.dup, 1) := by decide +kernel
theorem dX5_addNode_34 : decode cX5_addNode 34 = .ok (.getfield 52, 3) := by decide +kernel
theorem dX5_addNode_37 : decode cX5_addNode 37 = .ok (.iconst 1, 1) := by decide +kernel
theorem dX5_addNode_38 : decode cX5_addNode 38 = .ok (.iadd, 1) := by decide +kernel
theorem dX5_addNode_39 : decode cX5_addNode 39 = .ok (.putfield 52, 3) := by decide +kernel
theorem dX5_addNode_42 : decode cX5_addNode 42 = .ok (.iload_n 2, 1) := by decide +kernel
theorem dX5_addNode_43 : decode cX5_addNode 43 = .ok (.ireturn, 1) := by decide +kernel
theorem dX5_settle_0 : decode cX5_settle 0 = .ok (.aload_n 0, 1) := by decide +kernel
theorem dX5_settle_1 : decode cX5_settle 1 = .ok (.getfield 39, 3) := by decide +kernel
theorem dX5_settle_4 : decode cX5_settle 4 = .ok (.iload_n 1, 1) := by decide +kernel
theorem dX5_settle_5 : decode cX5_settle 5 = .ok (.iload_n 2, 1) := by decide +kernel
theorem dX5_settle_6 : decode cX5_settle 6 = .ok (.invokevirtual 87, 3) := by decide +kernel
theorem dX5_settle_9 : decode cX5_settle 9 = .ok (.aload_n 0, 1) := by decide +kernel
theorem dX5_settle_10 : decode cX5_settle 10 = .ok (.getfield 27, 3) := by decide +kernel
theorem dX5_settle_13 : decode cX5_settle 13 = .ok (.iload_n 2, 1) := by decide +kernel
theorem dX5_settle_14 : decode cX5_settle 14 = .ok (.iconst 1, 1) := by decide +kernel
theorem dX5_settle_15 : decode cX5_settle 15 = .ok (.invokevirtual 91, 3) := by decide +kernel
theorem dX5_settle_18 : decode cX5_settle 18 = .ok (.return_, 1) := by decide +kernel
theorem dX5_growQuarters_0 : decode cX5_growQuarters 0 = .ok (.aload_n 0, 1) := by decide +kernel
theorem dX5_growQuarters_1 : decode cX5_growQuarters 1 = .ok (.invokevirtual 94, 3) := by decide +kernel
theorem dX5_growQuarters_4 : decode cX5_growQuarters 4 = .ok (.aload_n 0, 1) := by decide +kernel
theorem dX5_growQuarters_5 : decode cX5_growQuarters 5 = .ok (.aload_n 0, 1) := by decide +kernel
theorem dX5_growQuarters_6 : decode cX5_growQuarters 6 = .ok (.iconst 0, 1) := by decide +kernel
theorem dX5_growQuarters_7 : decode cX5_growQuarters 7 = .ok (.invokevirtual 97, 3) := by decide +kernel
theorem dX5_growQuarters_10 : decode cX5_growQuarters 10 = .ok (.putfield 60, 3) := by decide +kernel
theorem dX5_growQuarters_13 : decode cX5_growQuarters 13 = .ok (.aload_n 0, 1) := by decide +kernel
theorem dX5_growQuarters_14 : decode cX5_growQuarters 14 = .ok (.getfield 14, 3) := by decide +kernel
theorem dX5_growQuarters_17 : decode cX5_growQuarters 17 = .ok (.aload_n 0, 1) := by decide +kernel
theorem dX5_growQuarters_18 : decode cX5_growQuarters 18 = .ok (.getfield 60, 3) := by decide +kernel
theorem dX5_growQuarters_21 : decode cX5_growQuarters 21 = .ok (.iconst 0, 1) := by decide +kernel
theorem dX5_growQuarters_22 : decode cX5_growQuarters 22 = .ok (.iconst 0, 1) := by decide +kernel
theorem dX5_growQuarters_23 : decode cX5_growQuarters 23 = .ok (.sipush 1023, 3) := by decide +kernel
theorem dX5_growQuarters_26 : decode cX5_growQuarters 26 = .ok (.sipush 1023, 3) := by decide +kernel
theorem dX5_growQuarters_29 : decode cX5_growQuarters 29 = .ok (.invokevirtual 100, 3) := by decide +kernel
theorem dX5_growQuarters_32 : decode cX5_growQuarters 32 = .ok (.iconst 0, 1) := by decide +kernel
theorem dX5_growQuarters_33 : decode cX5_growQuarters 33 = .ok (.istore 4, 2) := by decide +kernel
theorem dX5_growQuarters_35 : decode cX5_growQuarters 35 = .ok (.iload 4, 2) := by decide +kernel
theorem dX5_growQuarters_37 : decode cX5_growQuarters 37 = .ok (.aload_n 1, 1) := by decide +kernel
theorem dX5_growQuarters_38 : decode cX5_growQuarters 38 = .ok (.getfield 103, 3) := by decide +kernel
theorem dX5_growQuarters_41 : decode cX5_growQuarters 41 = .ok (.if_icmp .ge 29, 3) := by decide +kernel
theorem dX5_growQuarters_44 : decode cX5_growQuarters 44 = .ok (.aload_n 1, 1) := by decide +kernel
theorem dX5_growQuarters_45 : decode cX5_growQuarters 45 = .ok (.iload 4, 2) := by decide +kernel
theorem dX5_growQuarters_47 : decode cX5_growQuarters 47 = .ok (.iload_n 2, 1) := by decide +kernel
theorem dX5_growQuarters_48 : decode cX5_growQuarters 48 = .ok (.invokevirtual 108, 3) := by decide +kernel
theorem dX5_growQuarters_51 : decode cX5_growQuarters 51 = .ok (.ifCond .eq 13, 3) := by decide +kernel
theorem dX5_growQuarters_54 : decode cX5_growQuarters 54 = .ok (.aload_n 0, 1) := by decide +kernel
theorem dX5_growQuarters_55 : decode cX5_growQuarters 55 = .ok (.iload 4, 2) := by decide +kernel
theorem dX5_growQuarters_57 : decode cX5_growQuarters 57 = .ok (.aload_n 0, 1) := by decide +kernel
theorem dX5_growQuarters_58 : decode cX5_growQuarters 58 = .ok (.getfield 60, 3) := by decide +kernel
theorem dX5_growQuarters_61 : decode cX5_growQuarters 61 = .ok (.invokevirtual 112, 3) := by decide +kernel
theorem dX5_growQuarters_64 : decode cX5_growQuarters 64 = .ok (.iinc 4 1, 3) := by decide +kernel
theorem dX5_growQuarters_67 : decode cX5_growQuarters 67 = .ok (.goto (-32), 3) := by decide +kernel
theorem dX5_growQuarters_70 : decode cX5_growQuarters 70 = .ok (.iconst 0, 1) := by decide +kernel
theorem dX5_growQuarters_71 : decode cX5_growQuarters 71 = .ok (.istore 4, 2) := by decide +kernel
theorem dX5_growQuarters_73 : decode cX5_growQuarters 73 = .ok (.iload 4, 2) := by decide +kernel
theorem dX5_growQuarters_75 : decode cX5_growQuarters 75 = .ok (.sipush 1205, 3) := by decide +kernel
theorem dX5_growQuarters_78 : decode cX5_growQuarters 78 = .ok (.if_icmp .ge 47, 3) := by decide +kernel
theorem dX5_growQuarters_81 : decode cX5_growQuarters 81 = .ok (.iload 4, 2) := by decide +kernel
theorem dX5_growQuarters_83 : decode cX5_growQuarters 83 = .ok (.aload_n 0, 1) := by decide +kernel
theorem dX5_growQuarters_84 : decode cX5_growQuarters 84 = .ok (.getfield 52, 3) := by decide +kernel
theorem dX5_growQuarters_87 : decode cX5_growQuarters 87 = .ok (.if_icmp .ge 38, 3) := by decide +kernel
theorem dX5_growQuarters_90 : decode cX5_growQuarters 90 = .ok (.aload_n 0, 1) := by decide +kernel
theorem dX5_growQuarters_91 : decode cX5_growQuarters 91 = .ok (.getfield 27, 3) := by decide +kernel
theorem dX5_growQuarters_94 : decode cX5_growQuarters 94 = .ok (.iload 4, 2) := by decide +kernel
theorem dX5_growQuarters_96 : decode cX5_growQuarters 96 = .ok (.invokevirtual 48, 3) := by decide +kernel
theorem dX5_growQuarters_99 : decode cX5_growQuarters 99 = .ok (.iload_n 3, 1) := by decide +kernel
theorem dX5_growQuarters_100 : decode cX5_growQuarters 100 = .ok (.if_icmp .le 19, 3) := by decide +kernel
theorem dX5_growQuarters_103 : decode cX5_growQuarters 103 = .ok (.aload_n 0, 1) := by decide +kernel
theorem dX5_growQuarters_104 : decode cX5_growQuarters 104 = .ok (.iload 4, 2) := by decide +kernel
theorem dX5_growQuarters_106 : decode cX5_growQuarters 106 = .ok (.invokevirtual 75, 3) := by decide +kernel
theorem dX5_growQuarters_109 : decode cX5_growQuarters 109 = .ok (.ifCond .le 10, 3) := by decide +kernel
theorem dX5_growQuarters_112 : decode cX5_growQuarters 112 = .ok (.aload_n 0, 1) := by decide +kernel
theorem dX5_growQuarters_113 : decode cX5_growQuarters 113 = .ok (.iload 4, 2) := by decide +kernel
theorem dX5_growQuarters_115 : decode cX5_growQuarters 115 = .ok (.aload_n 1, 1) := by decide +kernel
theorem dX5_growQuarters_116 : decode cX5_growQuarters 116 = .ok (.invokevirtual 115, 3) := by decide +kernel
theorem dX5_growQuarters_119 : decode cX5_growQuarters 119 = .ok (.iinc 4 1, 3) := by decide +kernel
theorem dX5_growQuarters_122 : decode cX5_growQuarters 122 = .ok (.goto (-49), 3) := by decide +kernel
theorem dX5_growQuarters_125 : decode cX5_growQuarters 125 = .ok (.return_, 1) := by decide +kernel
theorem dX5_split_0 : decode cX5_split 0 = .ok (.aload_n 0, 1) := by decide +kernel
theorem dX5_split_1 : decode cX5_split 1 = .ok (.iload_n 1, 1) := by decide +kernel
theorem dX5_split_2 : decode cX5_split 2 = .ok (.invokevirtual 75, 3) := by decide +kernel
theorem dX5_split_5 : decode cX5_split 5 = .ok (.istore_n 3, 1) := by decide +kernel
theorem dX5_split_6 : decode cX5_split 6 = .ok (.aload_n 0, 1) := by decide +kernel
theorem dX5_split_7 : decode cX5_split 7 = .ok (.getfield 52, 3) := by decide +kernel
theorem dX5_split_10 : decode cX5_split 10 = .ok (.istore 4, 2) := by decide +kernel
theorem dX5_split_12 : decode cX5_split 12 = .ok (.aload_n 0, 1) := by decide +kernel
theorem dX5_split_13 : decode cX5_split 13 = .ok (.getfield 30, 3) := by decide +kernel
theorem dX5_split_16 : decode cX5_split 16 = .ok (.iload_n 1, 1) := by decide +kernel
theorem dX5_split_17 : decode cX5_split 17 = .ok (.iload 4, 2) := by decide +kernel
theorem dX5_split_19 : decode cX5_split 19 = .ok (.invokevirtual 87, 3) := by decide +kernel
theorem dX5_split_22 : decode cX5_split 22 = .ok (.iconst 0, 1) := by decide +kernel
theorem dX5_split_23 : decode cX5_split 23 = .ok (.istore 5, 2) := by decide +kernel
theorem dX5_split_25 : decode cX5_split 25 = .ok (.iload 5, 2) := by decide +kernel
theorem dX5_split_27 : decode cX5_split 27 = .ok (.iconst 4, 1) := by decide +kernel
theorem dX5_split_28 : decode cX5_split 28 = .ok (.if_icmp .ge 95, 3) := by decide +kernel
theorem dX5_split_31 : decode cX5_split 31 = .ok (.aload_n 0, 1) := by decide +kernel
theorem dX5_split_32 : decode cX5_split 32 = .ok (.getfield 14, 3) := by decide +kernel
theorem dX5_split_35 : decode cX5_split 35 = .ok (.getfield 78, 3) := by decide +kernel
theorem dX5_split_38 : decode cX5_split 38 = .ok (.iload_n 1, 1) := by decide +kernel
theorem dX5_split_39 : decode cX5_split 39 = .ok (.invokevirtual 48, 3) := by decide +kernel
theorem dX5_split_42 : decode cX5_split 42 = .ok (.iload 5, 2) := by decide +kernel
theorem dX5_split_44 : decode cX5_split 44 = .ok (.iconst 2, 1) := by decide +kernel
theorem dX5_split_45 : decode cX5_split 45 = .ok (.irem, 1) := by decide +kernel
theorem dX5_split_46 : decode cX5_split 46 = .ok (.iload_n 3, 1) := by decide +kernel
theorem dX5_split_47 : decode cX5_split 47 = .ok (.imul, 1) := by decide +kernel
theorem dX5_split_48 : decode cX5_split 48 = .ok (.iadd, 1) := by decide +kernel
theorem dX5_split_49 : decode cX5_split 49 = .ok (.istore 6, 2) := by decide +kernel
theorem dX5_split_51 : decode cX5_split 51 = .ok (.aload_n 0, 1) := by decide +kernel
theorem dX5_split_52 : decode cX5_split 52 = .ok (.getfield 14, 3) := by decide +kernel
theorem dX5_split_55 : decode cX5_split 55 = .ok (.getfield 81, 3) := by decide +kernel
theorem dX5_split_58 : decode cX5_split 58 = .ok (.iload_n 1, 1) := by decide +kernel
theorem dX5_split_59 : decode cX5_split 59 = .ok (.invokevirtual 48, 3) := by decide +kernel
theorem dX5_split_62 : decode cX5_split 62 = .ok (.iload 5, 2) := by decide +kernel
theorem dX5_split_64 : decode cX5_split 64 = .ok (.iconst 2, 1) := by decide +kernel
theorem dX5_split_65 : decode cX5_split 65 = .ok (.idiv, 1) := by decide +kernel
theorem dX5_split_66 : decode cX5_split 66 = .ok (.iload_n 3, 1) := by decide +kernel
theorem dX5_split_67 : decode cX5_split 67 = .ok (.imul, 1) := by decide +kernel
theorem dX5_split_68 : decode cX5_split 68 = .ok (.iadd, 1) := by decide +kernel
theorem dX5_split_69 : decode cX5_split 69 = .ok (.istore 7, 2) := by decide +kernel
theorem dX5_split_71 : decode cX5_split 71 = .ok (.aload_n 0, 1) := by decide +kernel
theorem dX5_split_72 : decode cX5_split 72 = .ok (.aload_n 0, 1) := by decide +kernel
theorem dX5_split_73 : decode cX5_split 73 = .ok (.getfield 23, 3) := by decide +kernel
theorem dX5_split_76 : decode cX5_split 76 = .ok (.iload_n 1, 1) := by decide +kernel
theorem dX5_split_77 : decode cX5_split 77 = .ok (.invokevirtual 48, 3) := by decide +kernel
theorem dX5_split_80 : decode cX5_split 80 = .ok (.iconst 1, 1) := by decide +kernel
theorem dX5_split_81 : decode cX5_split 81 = .ok (.iadd, 1) := by decide +kernel
theorem dX5_split_82 : decode cX5_split 82 = .ok (.invokevirtual 97, 3) := by decide +kernel
theorem dX5_split_85 : decode cX5_split 85 = .ok (.istore 8, 2) := by decide +kernel
theorem dX5_split_87 : decode cX5_split 87 = .ok (.aload_n 0, 1) := by decide +kernel
theorem dX5_split_88 : decode cX5_split 88 = .ok (.getfield 14, 3) := by decide +kernel
theorem dX5_split_91 : decode cX5_split 91 = .ok (.iload 8, 2) := by decide +kernel
theorem dX5_split_93 : decode cX5_split 93 = .ok (.iload 6, 2) := by decide +kernel
theorem dX5_split_95 : decode cX5_split 95 = .ok (.iload 7, 2) := by decide +kernel
