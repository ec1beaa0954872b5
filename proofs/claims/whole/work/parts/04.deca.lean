theorem dX0_init_0 : decode cX0_init 0 = .ok (.aload_n 0, 1) := by decide +kernel
theorem dX0_init_1 : decode cX0_init 1 = .ok (.invokespecial 3, 3) := by decide +kernel
theorem dX0_init_4 : decode cX0_init 4 = .ok (.aload_n 0, 1) := by decide +kernel
theorem dX0_init_5 : decode cX0_init 5 = .ok (.bipush 6, 2) := by decide +kernel
theorem dX0_init_7 : decode cX0_init 7 = .ok (.newarray .int, 2) := by decide +kernel
theorem dX0_init_9 : decode cX0_init 9 = .ok (.putfield 9, 3) := by decide +kernel
theorem dX0_init_12 : decode cX0_init 12 = .ok (.aload_n 0, 1) := by decide +kernel
theorem dX0_init_13 : decode cX0_init 13 = .ok (.bipush 6, 2) := by decide +kernel
theorem dX0_init_15 : decode cX0_init 15 = .ok (.newarray .int, 2) := by decide +kernel
theorem dX0_init_17 : decode cX0_init 17 = .ok (.putfield 15, 3) := by decide +kernel
theorem dX0_init_20 : decode cX0_init 20 = .ok (.aload_n 0, 1) := by decide +kernel
theorem dX0_init_21 : decode cX0_init 21 = .ok (.bipush 6, 2) := by decide +kernel
theorem dX0_init_23 : decode cX0_init 23 = .ok (.newarray .int, 2) := by decide +kernel
theorem dX0_init_25 : decode cX0_init 25 = .ok (.putfield 18, 3) := by decide +kernel
theorem dX0_init_28 : decode cX0_init 28 = .ok (.iconst 0, 1) := by decide +kernel
theorem dX0_init_29 : decode cX0_init 29 = .ok (.istore_n 1, 1) := by decide +kernel
theorem dX0_init_30 : decode cX0_init 30 = .ok (.iload_n 1, 1) := by decide +kernel
theorem dX0_init_31 : decode cX0_init 31 = .ok (.bipush 6, 2) := by decide +kernel
theorem dX0_init_33 : decode cX0_init 33 = .ok (.if_icmp .ge 24, 3) := by decide +kernel
theorem dX0_init_36 : decode cX0_init 36 = .ok (.aload_n 0, 1) := by decide +kernel
theorem dX0_init_37 : decode cX0_init 37 = .ok (.getfield 9, 3) := by decide +kernel
theorem dX0_init_40 : decode cX0_init 40 = .ok (.iload_n 1, 1) := by decide +kernel
theorem dX0_init_41 : decode cX0_init 41 = .ok (.bipush (-6), 2) := by decide +kernel
theorem dX0_init_43 : decode cX0_init 43 = .ok (.iastore, 1) := by decide +kernel
theorem dX0_init_44 : decode cX0_init 44 = .ok (.aload_n 0, 1) := by decide +kernel
theorem dX0_init_45 : decode cX0_init 45 = .ok (.getfield 18, 3) := by decide +kernel
theorem dX0_init_48 : decode cX0_init 48 = .ok (.iload_n 1, 1) := by decide +kernel
theorem dX0_init_49 : decode cX0_init 49 = .ok (.iconst 5, 1) := by decide +kernel
theorem dX0_init_50 : decode cX0_init 50 = .ok (.iastore, 1) := by decide +kernel
theorem dX0_init_51 : decode cX0_init 51 = .ok (.iinc 1 1, 3) := by decide +kernel
theorem dX0_init_54 : decode cX0_init 54 = .ok (.goto (-24), 3) := by decide +kernel
theorem dX0_init_57 : decode cX0_init 57 = .ok (.aload_n 0, 1) := by decide +kernel
theorem dX0_init_58 : decode cX0_init 58 = .ok (.iconst 2, 1) := by decide +kernel
theorem dX0_init_59 : decode cX0_init 59 = .ok (.putfield 21, 3) := by decide +kernel
theorem dX0_init_62 : decode cX0_init 62 = .ok (.return_, 1) := by decide +kernel
theorem dX0_copyFrom_0 : decode cX0_copyFrom 0 = .ok (.iconst 0, 1) := by decide +kernel
theorem dX0_copyFrom_1 : decode cX0_copyFrom 1 = .ok (.istore_n 2, 1) := by decide +kernel
theorem dX0_copyFrom_2 : decode cX0_copyFrom 2 = .ok (.iload_n 2, 1) := by decide +kernel
theorem dX0_copyFrom_3 : decode cX0_copyFrom 3 = .ok (.bipush 6, 2) := by decide +kernel
theorem dX0_copyFrom_5 : decode cX0_copyFrom 5 = .ok (.if_icmp .ge 45, 3) := by decide +kernel
theorem dX0_copyFrom_8 : decode cX0_copyFrom 8 = .ok (.aload_n 0, 1) := by decide +kernel
theorem dX0_copyFrom_9 : decode cX0_copyFrom 9 = .ok (.getfield 9, 3) := by decide +kernel
theorem dX0_copyFrom_12 : decode cX0_copyFrom 12 = .ok (.iload_n 2, 1) := by decide +kernel
theorem dX0_copyFrom_13 : decode cX0_copyFrom 13 = .ok (.aload_n 1, 1) := by decide +kernel
theorem dX0_copyFrom_14 : decode cX0_copyFrom 14 = .ok (.getfield 9, 3) := by decide +kernel
theorem dX0_copyFrom_17 : decode cX0_copyFrom 17 = .ok (.iload_n 2, 1) := by decide +kernel
theorem dX0_copyFrom_18 : decode cX0_copyFrom 18 = .ok (.iaload, 1) := by decide +kernel
theorem dX0_copyFrom_19 : decode cX0_copyFrom 19 = .ok (.iastore, 1) := by decide +kernel
theorem dX0_copyFrom_20 : decode cX0_copyFrom 20 = .ok (.aload_n 0, 1) := by decide +kernel
theorem dX0_copyFrom_21 : decode cX0_copyFrom 21 = .ok (.getfield 15, 3) := by decide +kernel
theorem dX0_copyFrom_24 : decode cX0_copyFrom 24 = .ok (.iload_n 2, 1) := by decide +kernel
theorem dX0_copyFrom_25 : decode cX0_copyFrom 25 = .ok (.aload_n 1, 1) := by decide +kernel
theorem dX0_copyFrom_26 : decode cX0_copyFrom 26 = .ok (.getfield 15, 3) := by decide +kernel
theorem dX0_copyFrom_29 : decode cX0_copyFrom 29 = .ok (.iload_n 2, 1) := by decide +kernel
theorem dX0_copyFrom_30 : decode cX0_copyFrom 30 = .ok (.iaload, 1) := by decide +kernel
theorem dX0_copyFrom_31 : decode cX0_copyFrom 31 = .ok (.iastore, 1) := by decide +kernel
theorem dX0_copyFrom_32 : decode cX0_copyFrom 32 = .ok (.aload_n 0, 1) := by decide +kernel
theorem dX0_copyFrom_33 : decode cX0_copyFrom 33 = .ok (.getfield 18, 3) := by decide +kernel
theorem dX0_copyFrom_36 : decode cX0_copyFrom 36 = .ok (.iload_n 2, 1) := by decide +kernel
theorem dX0_copyFrom_37 : decode cX0_copyFrom 37 = .ok (.aload_n 1, 1) := by decide +kernel
theorem dX0_copyFrom_38 : decode cX0_copyFrom 38 = .ok (.getfield 18, 3) := by decide +kernel
theorem dX0_copyFrom_41 : decode cX0_copyFrom 41 = .ok (.iload_n 2, 1) := by decide +kernel
theorem dX0_copyFrom_42 : decode cX0_copyFrom 42 = .ok (.iaload, 1) := by decide +kernel
theorem dX0_copyFrom_43 : decode cX0_copyFrom 43 = .ok (.iastore, 1) := by decide +kernel
theorem dX0_copyFrom_44 : decode cX0_copyFrom 44 = .ok (.iinc 2 1, 3) := by decide +kernel
theorem dX0_copyFrom_47 : decode cX0_copyFrom 47 = .ok (.goto (-45), 3) := by decide +kernel
theorem dX0_copyFrom_50 : decode cX0_copyFrom 50 = .ok (.aload_n 0, 1) := by decide +kernel
theorem dX0_copyFrom_51 : decode cX0_copyFrom 51 = .ok (.aload_n 1, 1) := by decide +kernel
theorem dX0_copyFrom_52 : decode cX0_copyFrom 52 = .ok (.getfield 25, 3) := by decide +kernel
theorem dX0_copyFrom_55 : decode cX0_copyFrom 55 = .ok (.putfield 25, 3) := by decide +kernel
theorem dX0_copyFrom_58 : decode cX0_copyFrom 58 = .ok (.aload_n 0, 1) := by decide +kernel
theorem dX0_copyFrom_59 : decode cX0_copyFrom 59 = .ok (.aload_n 1, 1) := by decide +kernel
theorem dX0_copyFrom_60 : decode cX0_copyFrom 60 = .ok (.getfield 28, 3) := by decide +kernel
theorem dX0_copyFrom_63 : decode cX0_copyFrom 63 = .ok (.putfield 28, 3) := by decide +kernel
theorem dX0_copyFrom_66 : decode cX0_copyFrom 66 = .ok (.aload_n 0, 1) := by decide +kernel
theorem dX0_copyFrom_67 : decode cX0_copyFrom 67 = .ok (.aload_n 1, 1) := by decide +kernel
theorem dX0_copyFrom_68 : decode cX0_copyFrom 68 = .ok (.getfield 31, 3) := by decide +kernel
theorem dX0_copyFrom_71 : decode cX0_copyFrom 71 = .ok (.putfield 31, 3) := by decide +kernel
theorem dX0_copyFrom_74 : decode cX0_copyFrom 74 = .ok (.aload_n 0, 1) := by decide +kernel
theorem dX0_copyFrom_75 : decode cX0_copyFrom 75 = .ok (.aload_n 1, 1) := by decide +kernel
theorem dX0_copyFrom_76 : decode cX0_copyFrom 76 = .ok (.getfield 21, 3) := by decide +kernel
theorem dX0_copyFrom_79 : decode cX0_copyFrom 79 = .ok (.putfield 21, 3) := by decide +kernel
theorem dX0_copyFrom_82 : decode cX0_copyFrom 82 = .ok (.aload_n 0, 1) := by decide +kernel
theorem dX0_copyFrom_83 : decode cX0_copyFrom 83 = .ok (.aload_n 1, 1) := by decide +kernel
theorem dX0_copyFrom_84 : decode cX0_copyFrom 84 = .ok (.getfield 34, 3) := by decide +kernel
theorem dX0_copyFrom_87 : decode cX0_copyFrom 87 = .ok (.putfield 34, 3) := by decide +kernel
theorem dX0_copyFrom_90 : decode cX0_copyFrom 90 = .ok (.return_, 1) := by decide +kernel
theorem dX0_put_0 : decode cX0_put 0 = .ok (.aload_n 0, 1) := by decide +kernel
theorem dX0_put_1 : decode cX0_put 1 = .ok (.getfield 9, 3) := by decide +kernel
theorem dX0_put_4 : decode cX0_put 4 = .ok (.iload_n 1, 1) := by decide +kernel
theorem dX0_put_5 : decode cX0_put 5 = .ok (.iload_n 2, 1) := by decide +kernel
theorem dX0_put_6 : decode cX0_put 6 = .ok (.iastore, 1) := by decide +kernel
theorem dX0_put_7 : decode cX0_put 7 = .ok (.aload_n 0, 1) := by decide +kernel
theorem dX0_put_8 : decode cX0_put 8 = .ok (.getfield 15, 3) := by decide +kernel
theorem dX0_put_11 : decode cX0_put 11 = .ok (.iload_n 1, 1) := by decide +kernel
theorem dX0_put_12 : decode cX0_put 12 = .ok (.iload_n 3, 1) := by decide +kernel
theorem dX0_put_13 : decode cX0_put 13 = .ok (.iastore, 1) := by decide +kernel
theorem dX0_put_14 : decode cX0_put 14 = .ok (.aload_n 0, 1) := by decide +kernel
theorem dX0_put_15 : decode cX0_put 15 = .ok (.getfield 18, 3) := by decide +kernel
theorem dX0_put_18 : decode cX0_put 18 = .ok (.iload_n 1, 1) := by decide +kernel
theorem dX0_put_19 : decode cX0_put 19 = .ok (.iload 4, 2) := by decide +kernel
theorem dX0_put_21 : decode cX0_put 21 = .ok (.iastore, 1) := by decide +kernel
theorem dX0_put_22 : decode cX0_put 22 = .ok (.aload_n 0, 1) := by decide +kernel
theorem dX0_put_23 : decode cX0_put 23 = .ok (.dup, 1) := by decide +kernel
theorem dX0_put_24 : decode cX0_put 24 = .ok (.getfield 28, 3) := by decide +kernel
theorem dX0_put_27 : decode cX0_put 27 = .ok (.iconst 1, 1) := by decide +kernel
theorem dX0_put_28 : decode cX0_put 28 = .ok (.iload_n 1, 1) := by decide +kernel
theorem dX0_put_29 : decode cX0_put 29 = .ok (.ishl, 1) := by decide +kernel
theorem dX0_put_30 : decode cX0_put 30 = .ok (.iconst (-1), 1) := by decide +kernel
theorem dX0_put_31 : decode cX0_put 31 = .ok (.ixor, 1) := by decide +kernel
theorem dX0_put_32 : decode cX0_put 32 = .ok (.iand, 1) := by decide +kernel
theorem dX0_put_33 : decode cX0_put 33 = .ok (.putfield 28, 3) := by decide +kernel
theorem dX0_put_36 : decode cX0_put 36 = .ok (.aload_n 0, 1) := by decide +kernel
theorem dX0_put_37 : decode cX0_put 37 = .ok (.dup, 1) := by decide +kernel
theorem dX0_put_38 : decode cX0_put 38 = .ok (.getfield 31, 3) := by decide +kernel
theorem dX0_put_41 : decode cX0_put 41 = .ok (.iconst 1, 1) := by decide +kernel
theorem dX0_put_42 : decode cX0_put 42 = .ok (.iload_n 1, 1) := by decide +kernel
theorem dX0_put_43 : decode cX0_put 43 = .ok (.ishl, 1) := by decide +kernel
theorem dX0_put_44 : decode cX0_put 44 = .ok (.iconst (-1), 1) := by decide +kernel
theorem dX0_put_45 : decode cX0_put 45 = .ok (.ixor, 1) := by decide +kernel
theorem dX0_put_46 : decode cX0_put 46 = .ok (.iand, 1) := by decide +kernel
theorem dX0_put_47 : decode cX0_put 47 = .ok (.putfield 31, 3) := by decide +kernel
theorem dX0_put_50 : decode cX0_put 50 = .ok (.return_, 1) := by decide +kernel
theorem dX0_isAlight_0 : decode cX0_isAlight 0 = .ok (.aload_n 0, 1) := by decide +kernel
theorem dX0_isAlight_1 : decode cX0_isAlight 1 = .ok (.getfield 15, 3) := by decide +kernel
theorem dX0_isAlight_4 : decode cX0_isAlight 4 = .ok (.iload_n 1, 1) := by decide +kernel
theorem dX0_isAlight_5 : decode cX0_isAlight 5 = .ok (.iaload, 1) := by decide +kernel
theorem dX0_isAlight_6 : decode cX0_isAlight 6 = .ok (.ifCond .le 7, 3) := by decide +kernel
theorem dX0_isAlight_9 : decode cX0_isAlight 9 = .ok (.iconst 1, 1) := by decide +kernel
theorem dX0_isAlight_10 : decode cX0_isAlight 10 = .ok (.goto 4, 3) := by decide +kernel
theorem dX0_isAlight_13 : decode cX0_isAlight 13 = .ok (.iconst 0, 1) := by decide +kernel
theorem dX0_isAlight_14 : decode cX0_isAlight 14 = .ok (.ireturn, 1) := by decide +kernel
theorem dX0_isTakenByAnother_0 : decode cX0_isTakenByAnother 0 = .ok (.iconst 0, 1) := by decide +kernel
theorem dX0_isTakenByAnother_1 : decode cX0_isTakenByAnother 1 = .ok (.istore_n 3, 1) := by decide +kernel
theorem dX0_isTakenByAnother_2 : decode cX0_isTakenByAnother 2 = .ok (.iload_n 3, 1) := by decide +kernel
theorem dX0_isTakenByAnother_3 : decode cX0_isTakenByAnother 3 = .ok (.bipush 6, 2) := by decide +kernel
theorem dX0_isTakenByAnother_5 : decode cX0_isTakenByAnother 5 = .ok (.if_icmp .ge 26, 3) := by decide +kernel
theorem dX0_isTakenByAnother_8 : decode cX0_isTakenByAnother 8 = .ok (.iload_n 3, 1) := by decide +kernel
theorem dX0_isTakenByAnother_9 : decode cX0_isTakenByAnother 9 = .ok (.iload_n 2, 1) := by decide +kernel
theorem dX0_isTakenByAnother_10 : decode cX0_isTakenByAnother 10 = .ok (.if_icmp .eq 15, 3) := by decide +kernel
theorem dX0_isTakenByAnother_13 : decode cX0_isTakenByAnother 13 = .ok (.aload_n 0, 1) := by decide +kernel
theorem dX0_isTakenByAnother_14 : decode cX0_isTakenByAnother 14 = .ok (.getfield 9, 3) := by decide +kernel
theorem dX0_isTakenByAnother_17 : decode cX0_isTakenByAnother 17 = .ok (.iload_n 3, 1) := by decide +kernel
theorem dX0_isTakenByAnother_18 : decode cX0_isTakenByAnother 18 = .ok (.iaload, 1) := by decide +kernel
theorem dX0_isTakenByAnother_19 : decode cX0_isTakenByAnother 19 = .ok (.iload_n 1, 1) := by decide +kernel
theorem dX0_isTakenByAnother_20 : decode cX0_isTakenByAnother 20 = .ok (.if_icmp .ne 5, 3) := by decide +kernel
theorem dX0_isTakenByAnother_23 : decode cX0_isTakenByAnother 23 = .ok (.iconst 1, 1) := by decide +kernel
theorem dX0_isTakenByAnother_24 : decode cX0_isTakenByAnother 24 = .ok (.ireturn, 1) := by decide +kernel
theorem dX0_isTakenByAnother_25 : decode cX0_isTakenByAnother 25 = .ok (.iinc 3 1, 3) := by decide +kernel
theorem dX0_isTakenByAnother_28 : decode cX0_isTakenByAnother 28 = .ok (.goto (-26), 3) := by decide +kernel
theorem dX0_isTakenByAnother_31 : decode cX0_isTakenByAnother 31 = .ok (.iconst 0, 1) := by decide +kernel
theorem dX0_isTakenByAnother_32 : decode cX0_isTakenByAnother 32 = .ok (.ireturn, 1) := by decide +kernel
theorem dX0_heatOfAll_0 : decode cX0_heatOfAll 0 = .ok (.iconst 0, 1) := by decide +kernel
theorem dX0_heatOfAll_1 : decode cX0_heatOfAll 1 = .ok (.istore_n 1, 1) := by decide +kernel
theorem dX0_heatOfAll_2 : decode cX0_heatOfAll 2 = .ok (.iconst 0, 1) := by decide +kernel
theorem dX0_heatOfAll_3 : decode cX0_heatOfAll 3 = .ok (.istore_n 2, 1) := by decide +kernel
theorem dX0_heatOfAll_4 : decode cX0_heatOfAll 4 = .ok (.iload_n 2, 1) := by decide +kernel
theorem dX0_heatOfAll_5 : decode cX0_heatOfAll 5 = .ok (.bipush 6, 2) := by decide +kernel
theorem dX0_heatOfAll_7 : decode cX0_heatOfAll 7 = .ok (.if_icmp .ge 18, 3) := by decide +kernel
theorem dX0_heatOfAll_10 : decode cX0_heatOfAll 10 = .ok (.iload_n 1, 1) := by decide +kernel
theorem dX0_heatOfAll_11 : decode cX0_heatOfAll 11 = .ok (.aload_n 0, 1) := by decide +kernel
theorem dX0_heatOfAll_12 : decode cX0_heatOfAll 12 = .ok (.getfield 15, 3) := by decide +kernel
theorem dX0_heatOfAll_15 : decode cX0_heatOfAll 15 = .ok (.iload_n 2, 1) := by decide +kernel
theorem dX0_heatOfAll_16 : decode cX0_heatOfAll 16 = .ok (.iaload, 1) := by decide +kernel
theorem dX0_heatOfAll_17 : decode cX0_heatOfAll 17 = .ok (.iadd, 1) := by decide +kernel
theorem dX0_heatOfAll_18 : decode cX0_heatOfAll 18 = .ok (.istore_n 1, 1) := by decide +kernel
theorem dX0_heatOfAll_19 : decode cX0_heatOfAll 19 = .ok (.iinc 2 1, 3) := by decide +kernel
theorem dX0_heatOfAll_22 : decode cX0_heatOfAll 22 = .ok (.goto (-18), 3) := by decide +kernel
theorem dX0_heatOfAll_25 : decode cX0_heatOfAll 25 = .ok (.iload_n 1, 1) := by decide +kernel
theorem dX0_heatOfAll_26 : decode cX0_heatOfAll 26 = .ok (.ireturn, 1) := by decide +kernel
theorem dX0_areNear_0 : decode cX0_areNear 0 = .ok (.aload_n 0, 1) := by decide +kernel
theorem dX0_areNear_1 : decode cX0_areNear 1 = .ok (.getfield 9, 3) := by decide +kernel
theorem dX0_areNear_4 : decode cX0_areNear 4 = .ok (.iload_n 1, 1) := by decide +kernel
theorem dX0_areNear_5 : decode cX0_areNear 5 = .ok (.iaload, 1) := by decide +kernel
theorem dX0_areNear_6 : decode cX0_areNear 6 = .ok (.istore_n 3, 1) := by decide +kernel
theorem dX0_areNear_7 : decode cX0_areNear 7 = .ok (.aload_n 0, 1) := by decide +kernel
theorem dX0_areNear_8 : decode cX0_areNear 8 = .ok (.getfield 9, 3) := by decide +kernel
theorem dX0_areNear_11 : decode cX0_areNear 11 = .ok (.iload_n 2, 1) := by decide +kernel
theorem dX0_areNear_12 : decode cX0_areNear 12 = .ok (.iaload, 1) := by decide +kernel
theorem dX0_areNear_13 : decode cX0_areNear 13 = .ok (.istore 4, 2) := by decide +kernel
theorem dX0_areNear_15 : decode cX0_areNear 15 = .ok (.iload_n 1, 1) := by decide +kernel
theorem dX0_areNear_16 : decode cX0_areNear 16 = .ok (.iload_n 2, 1) := by decide +kernel
theorem dX0_areNear_17 : decode cX0_areNear 17 = .ok (.if_icmp .eq 16, 3) := by decide +kernel
theorem dX0_areNear_20 : decode cX0_areNear 20 = .ok (.iload_n 3, 1) := by decide +kernel
theorem dX0_areNear_21 : decode cX0_areNear 21 = .ok (.bipush (-6), 2) := by decide +kernel
theorem dX0_areNear_23 : decode cX0_areNear 23 = .ok (.if_icmp .eq 10, 3) := by decide +kernel
theorem dX0_areNear_26 : decode cX0_areNear 26 = .ok (.iload 4, 2) := by decide +kernel
theorem dX0_areNear_28 : decode cX0_areNear 28 = .ok (.bipush (-6), 2) := by decide +kernel
theorem dX0_areNear_30 : decode cX0_areNear 30 = .ok (.if_icmp .ne 5, 3) := by decide +kernel
theorem dX0_areNear_33 : decode cX0_areNear 33 = .ok (.iconst 0, 1) := by decide +kernel
theorem dX0_areNear_34 : decode cX0_areNear 34 = .ok (.ireturn, 1) := by decide +kernel
theorem dX0_areNear_35 : decode cX0_areNear 35 = .ok (.iload_n 3, 1) := by decide +kernel
theorem dX0_areNear_36 : decode cX0_areNear 36 = .ok (.iconst 5, 1) := by decide +kernel
theorem dX0_areNear_37 : decode cX0_areNear 37 = .ok (.idiv, 1) := by decide +kernel
theorem dX0_areNear_38 : decode cX0_areNear 38 = .ok (.iload 4, 2) := by decide +kernel
theorem dX0_areNear_40 : decode cX0_areNear 40 = .ok (.iconst 5, 1) := by decide +kernel
theorem dX0_areNear_41 : decode cX0_areNear 41 = .ok (.idiv, 1) := by decide +kernel
theorem dX0_areNear_42 : decode cX0_areNear 42 = .ok (.isub, 1) := by decide +kernel
theorem dX0_areNear_43 : decode cX0_areNear 43 = .ok (.invokestatic 37, 3) := by decide +kernel
theorem dX0_areNear_46 : decode cX0_areNear 46 = .ok (.istore 5, 2) := by decide +kernel
theorem dX0_areNear_48 : decode cX0_areNear 48 = .ok (.iload_n 3, 1) := by decide +kernel
theorem dX0_areNear_49 : decode cX0_areNear 49 = .ok (.iconst 5, 1) := by decide +kernel
theorem dX0_areNear_50 : decode cX0_areNear 50 = .ok (.irem, 1) := by decide +kernel
theorem dX0_areNear_51 : decode cX0_areNear 51 = .ok (.iload 4, 2) := by decide +kernel
theorem dX0_areNear_53 : decode cX0_areNear 53 = .ok (.iconst 5, 1) := by decide +kernel
theorem dX0_areNear_54 : decode cX0_areNear 54 = .ok (.irem, 1) := by decide +kernel
theorem dX0_areNear_55 : decode cX0_areNear 55 = .ok (.isub, 1) := by decide +kernel
theorem dX0_areNear_56 : decode cX0_areNear 56 = .ok (.invokestatic 37, 3) := by decide +kernel
theorem dX0_areNear_59 : decode cX0_areNear 59 = .ok (.istore 6, 2) := by decide +kernel
theorem dX0_areNear_61 : decode cX0_areNear 61 = .ok (.iload 5, 2) := by decide +kernel
theorem dX0_areNear_63 : decode cX0_areNear 63 = .ok (.iload 6, 2) := by decide +kernel
theorem dX0_areNear_65 : decode cX0_areNear 65 = .ok (.iadd, 1) := by decide +kernel
theorem dX0_areNear_66 : decode cX0_areNear 66 = .ok (.iconst 2, 1) := by decide +kernel
theorem dX0_areNear_67 : decode cX0_areNear 67 = .ok (.if_icmp .gt 7, 3) := by decide +kernel
theorem dX0_areNear_70 : decode cX0_areNear 70 = .ok (.iconst 1, 1) := by decide +kernel
theorem dX0_areNear_71 : decode cX0_areNear 71 = .ok (.goto 4, 3) := by decide +kernel
theorem dX0_areNear_74 : decode cX0_areNear 74 = .ok (.iconst 0, 1) := by decide +kernel
theorem dX0_areNear_75 : decode cX0_areNear 75 = .ok (.ireturn, 1) := by decide +kernel
theorem dX0_countNear_0 : decode cX0_countNear 0 = .ok (.iconst 0, 1) := by decide +kernel
theorem dX0_countNear_1 : decode cX0_countNear 1 = .ok (.istore_n 3, 1) := by decide +kernel
theorem dX0_countNear_2 : decode cX0_countNear 2 = .ok (.iconst 0, 1) := by decide +kernel
theorem dX0_countNear_3 : decode cX0_countNear 3 = .ok (.istore 4, 2) := by decide +kernel
theorem dX0_countNear_5 : decode cX0_countNear 5 = .ok (.iload 4, 2) := by decide +kernel
theorem dX0_countNear_7 : decode cX0_countNear 7 = .ok (.bipush 6, 2) := by decide +kernel
theorem dX0_countNear_9 : decode cX0_countNear 9 = .ok (.if_icmp .ge 31, 3) := by decide +kernel
theorem dX0_countNear_12 : decode cX0_countNear 12 = .ok (.iload_n 2, 1) := by decide +kernel
theorem dX0_countNear_13 : decode cX0_countNear 13 = .ok (.iload 4, 2) := by decide +kernel
theorem dX0_countNear_15 : decode cX0_countNear 15 = .ok (.invokestatic 43, 3) := by decide +kernel
theorem dX0_countNear_18 : decode cX0_countNear 18 = .ok (.ifCond .eq 16, 3) := by decide +kernel
theorem dX0_countNear_21 : decode cX0_countNear 21 = .ok (.aload_n 0, 1) := by decide +kernel
theorem dX0_countNear_22 : decode cX0_countNear 22 = .ok (.iload_n 1, 1) := by decide +kernel
theorem dX0_countNear_23 : decode cX0_countNear 23 = .ok (.iload 4, 2) := by decide +kernel
theorem dX0_countNear_25 : decode cX0_countNear 25 = .ok (.invokevirtual 47, 3) := by decide +kernel
theorem dX0_countNear_28 : decode cX0_countNear 28 = .ok (.ifCond .eq 6, 3) := by decide +kernel
theorem dX0_countNear_31 : decode cX0_countNear 31 = .ok (.iinc 3 1, 3) := by decide +kernel
theorem dX0_countNear_34 : decode cX0_countNear 34 = .ok (.iinc 4 1, 3) := by decide +kernel
theorem dX0_countNear_37 : decode cX0_countNear 37 = .ok (.goto (-32), 3) := by decide +kernel
theorem dX0_countNear_40 : decode cX0_countNear 40 = .ok (.iload_n 3, 1) := by decide +kernel
theorem dX0_countNear_41 : decode cX0_countNear 41 = .ok (.ireturn, 1) := by decide +kernel
theorem dX0_flaringBy_0 : decode cX0_flaringBy 0 = .ok (.iconst 1, 1) := by decide +kernel
theorem dX0_flaringBy_1 : decode cX0_flaringBy 1 = .ok (.iload_n 1, 1) := by decide +kernel
theorem dX0_flaringBy_2 : decode cX0_flaringBy 2 = .ok (.ishl, 1) := by decide +kernel
theorem dX0_flaringBy_3 : decode cX0_flaringBy 3 = .ok (.istore_n 3, 1) := by decide +kernel
theorem dX0_flaringBy_4 : decode cX0_flaringBy 4 = .ok (.iconst 0, 1) := by decide +kernel
theorem dX0_flaringBy_5 : decode cX0_flaringBy 5 = .ok (.istore 4, 2) := by decide +kernel
theorem dX0_flaringBy_7 : decode cX0_flaringBy 7 = .ok (.iload 4, 2) := by decide +kernel
theorem dX0_flaringBy_9 : decode cX0_flaringBy 9 = .ok (.bipush 6, 2) := by decide +kernel
theorem dX0_flaringBy_11 : decode cX0_flaringBy 11 = .ok (.if_icmp .ge 64, 3) := by decide +kernel
theorem dX0_flaringBy_14 : decode cX0_flaringBy 14 = .ok (.iload_n 3, 1) := by decide +kernel
theorem dX0_flaringBy_15 : decode cX0_flaringBy 15 = .ok (.istore 5, 2) := by decide +kernel
theorem dX0_flaringBy_17 : decode cX0_flaringBy 17 = .ok (.iconst 0, 1) := by decide +kernel
theorem dX0_flaringBy_18 : decode cX0_flaringBy 18 = .ok (.istore 6, 2) := by decide +kernel
theorem dX0_flaringBy_20 : decode cX0_flaringBy 20 = .ok (.iload 6, 2) := by decide +kernel
theorem dX0_flaringBy_22 : decode cX0_flaringBy 22 = .ok (.bipush 6, 2) := by decide +kernel
theorem dX0_flaringBy_24 : decode cX0_flaringBy 24 = .ok (.if_icmp .ge 36, 3) := by decide +kernel
theorem dX0_flaringBy_27 : decode cX0_flaringBy 27 = .ok (.aload_n 0, 1) := by decide +kernel
theorem dX0_flaringBy_28 : decode cX0_flaringBy 28 = .ok (.iload 6, 2) := by decide +kernel
theorem dX0_flaringBy_30 : decode cX0_flaringBy 30 = .ok (.iload_n 2, 1) := by decide +kernel
theorem dX0_flaringBy_31 : decode cX0_flaringBy 31 = .ok (.invokevirtual 50, 3) := by decide +kernel
theorem dX0_flaringBy_34 : decode cX0_flaringBy 34 = .ok (.ifCond .eq 20, 3) := by decide +kernel
theorem dX0_flaringBy_37 : decode cX0_flaringBy 37 = .ok (.aload_n 0, 1) := by decide +kernel
theorem dX0_flaringBy_38 : decode cX0_flaringBy 38 = .ok (.iload 6, 2) := by decide +kernel
theorem dX0_flaringBy_40 : decode cX0_flaringBy 40 = .ok (.iload_n 3, 1) := by decide +kernel
theorem dX0_flaringBy_41 : decode cX0_flaringBy 41 = .ok (.invokevirtual 53, 3) := by decide +kernel
theorem dX0_flaringBy_44 : decode cX0_flaringBy 44 = .ok (.ifCond .le 10, 3) := by decide +kernel
theorem dX0_flaringBy_47 : decode cX0_flaringBy 47 = .ok (.iload_n 3, 1) := by decide +kernel
theorem dX0_flaringBy_48 : decode cX0_flaringBy 48 = .ok (.iconst 1, 1) := by decide +kernel
theorem dX0_flaringBy_49 : decode cX0_flaringBy 49 = .ok (.iload 6, 2) := by decide +kernel
theorem dX0_flaringBy_51 : decode cX0_flaringBy 51 = .ok (.ishl, 1) := by decide +kernel
theorem dX0_flaringBy_52 : decode cX0_flaringBy 52 = .ok (.ior, 1) := by decide +kernel
theorem dX0_flaringBy_53 : decode cX0_flaringBy 53 = .ok (.istore_n 3, 1) := by decide +kernel
theorem dX0_flaringBy_54 : decode cX0_flaringBy 54 = .ok (.iinc 6 1, 3) := by decide +kernel
theorem dX0_flaringBy_57 : decode cX0_flaringBy 57 = .ok (.goto (-37), 3) := by decide +kernel
theorem dX0_flaringBy_60 : decode cX0_flaringBy 60 = .ok (.iload_n 3, 1) := by decide +kernel
theorem dX0_flaringBy_61 : decode cX0_flaringBy 61 = .ok (.iload 5, 2) := by decide +kernel
theorem dX0_flaringBy_63 : decode cX0_flaringBy 63 = .ok (.if_icmp .ne 6, 3) := by decide +kernel
theorem dX0_flaringBy_66 : decode cX0_flaringBy 66 = .ok (.goto 9, 3) := by decide +kernel
theorem dX0_flaringBy_69 : decode cX0_flaringBy 69 = .ok (.iinc 4 1, 3) := by decide +kernel
theorem dX0_flaringBy_72 : decode cX0_flaringBy 72 = .ok (.goto (-65), 3) := by decide +kernel
theorem dX0_flaringBy_75 : decode cX0_flaringBy 75 = .ok (.iload_n 3, 1) := by decide +kernel
theorem dX0_flaringBy_76 : decode cX0_flaringBy 76 = .ok (.ireturn, 1) := by decide +kernel
theorem dX0_canCatch_0 : decode cX0_canCatch 0 = .ok (.aload_n 0, 1) := by decide +kernel
theorem dX0_canCatch_1 : decode cX0_canCatch 1 = .ok (.iload_n 1, 1) := by decide +kernel
theorem dX0_canCatch_2 : decode cX0_canCatch 2 = .ok (.invokevirtual 57, 3) := by decide +kernel
theorem dX0_canCatch_5 : decode cX0_canCatch 5 = .ok (.ifCond .eq 25, 3) := by decide +kernel
theorem dX0_canCatch_8 : decode cX0_canCatch 8 = .ok (.aload_n 0, 1) := by decide +kernel
theorem dX0_canCatch_9 : decode cX0_canCatch 9 = .ok (.getfield 18, 3) := by decide +kernel
theorem dX0_canCatch_12 : decode cX0_canCatch 12 = .ok (.iload_n 1, 1) := by decide +kernel
theorem dX0_canCatch_13 : decode cX0_canCatch 13 = .ok (.iaload, 1) := by decide +kernel
theorem dX0_canCatch_14 : decode cX0_canCatch 14 = .ok (.iconst 2, 1) := by decide +kernel
theorem dX0_canCatch_15 : decode cX0_canCatch 15 = .ok (.if_icmp .gt 15, 3) := by decide +kernel
theorem dX0_canCatch_18 : decode cX0_canCatch 18 = .ok (.iload_n 2, 1) := by decide +kernel
theorem dX0_canCatch_19 : decode cX0_canCatch 19 = .ok (.iload_n 1, 1) := by decide +kernel
theorem dX0_canCatch_20 : decode cX0_canCatch 20 = .ok (.invokestatic 43, 3) := by decide +kernel
theorem dX0_canCatch_23 : decode cX0_canCatch 23 = .ok (.ifCond .ne 7, 3) := by decide +kernel
theorem dX0_canCatch_26 : decode cX0_canCatch 26 = .ok (.iconst 1, 1) := by decide +kernel
theorem dX0_canCatch_27 : decode cX0_canCatch 27 = .ok (.goto 4, 3) := by decide +kernel
theorem dX0_canCatch_30 : decode cX0_canCatch 30 = .ok (.iconst 0, 1) := by decide +kernel
theorem dX0_canCatch_31 : decode cX0_canCatch 31 = .ok (.ireturn, 1) := by decide +kernel
theorem dX0_reasonAgainst_0 : decode cX0_reasonAgainst 0 = .ok (.iload_n 1, 1) := by decide +kernel
theorem dX0_reasonAgainst_1 : decode cX0_reasonAgainst 1 = .ok (.iconst 5, 1) := by decide +kernel
theorem dX0_reasonAgainst_2 : decode cX0_reasonAgainst 2 = .ok (.if_icmp .ne 19, 3) := by decide +kernel
theorem dX0_reasonAgainst_5 : decode cX0_reasonAgainst 5 = .ok (.aload_n 0, 1) := by decide +kernel
theorem dX0_reasonAgainst_6 : decode cX0_reasonAgainst 6 = .ok (.getfield 34, 3) := by decide +kernel
theorem dX0_reasonAgainst_9 : decode cX0_reasonAgainst 9 = .ok (.bipush 99, 2) := by decide +kernel
theorem dX0_reasonAgainst_11 : decode cX0_reasonAgainst 11 = .ok (.if_icmp .lt 8, 3) := by decide +kernel
theorem dX0_reasonAgainst_14 : decode cX0_reasonAgainst 14 = .ok (.bipush 7, 2) := by decide +kernel
theorem dX0_reasonAgainst_16 : decode cX0_reasonAgainst 16 = .ok (.goto 4, 3) := by decide +kernel
theorem dX0_reasonAgainst_19 : decode cX0_reasonAgainst 19 = .ok (.iconst 0, 1) := by decide +kernel
theorem dX0_reasonAgainst_20 : decode cX0_reasonAgainst 20 = .ok (.ireturn, 1) := by decide +kernel
theorem dX0_reasonAgainst_21 : decode cX0_reasonAgainst 21 = .ok (.iload_n 1, 1) := by decide +kernel
theorem dX0_reasonAgainst_22 : decode cX0_reasonAgainst 22 = .ok (.ifCond .ne 30, 3) := by decide +kernel
theorem dX0_reasonAgainst_25 : decode cX0_reasonAgainst 25 = .ok (.aload_n 0, 1) := by decide +kernel
theorem dX0_reasonAgainst_26 : decode cX0_reasonAgainst 26 = .ok (.iload_n 3, 1) := by decide +kernel
theorem dX0_reasonAgainst_27 : decode cX0_reasonAgainst 27 = .ok (.iload_n 2, 1) := by decide +kernel
theorem dX0_reasonAgainst_28 : decode cX0_reasonAgainst 28 = .ok (.invokevirtual 61, 3) := by decide +kernel
theorem dX0_reasonAgainst_31 : decode cX0_reasonAgainst 31 = .ok (.ifCond .eq 7, 3) := by decide +kernel
theorem dX0_reasonAgainst_34 : decode cX0_reasonAgainst 34 = .ok (.iconst 2, 1) := by decide +kernel
theorem dX0_reasonAgainst_35 : decode cX0_reasonAgainst 35 = .ok (.goto 16, 3) := by decide +kernel
theorem dX0_reasonAgainst_38 : decode cX0_reasonAgainst 38 = .ok (.aload_n 0, 1) := by decide +kernel
theorem dX0_reasonAgainst_39 : decode cX0_reasonAgainst 39 = .ok (.iload_n 2, 1) := by decide +kernel
theorem dX0_reasonAgainst_40 : decode cX0_reasonAgainst 40 = .ok (.invokevirtual 57, 3) := by decide +kernel
theorem dX0_reasonAgainst_43 : decode cX0_reasonAgainst 43 = .ok (.ifCond .eq 7, 3) := by decide +kernel
theorem dX0_reasonAgainst_46 : decode cX0_reasonAgainst 46 = .ok (.iconst 3, 1) := by decide +kernel
theorem dX0_reasonAgainst_47 : decode cX0_reasonAgainst 47 = .ok (.goto 4, 3) := by decide +kernel
theorem dX0_reasonAgainst_50 : decode cX0_reasonAgainst 50 = .ok (.iconst 0, 1) := by decide +kernel
theorem dX0_reasonAgainst_51 : decode cX0_reasonAgainst 51 = .ok (.ireturn, 1) := by decide +kernel
theorem dX0_reasonAgainst_52 : decode cX0_reasonAgainst 52 = .ok (.aload_n 0, 1) := by decide +kernel
theorem dX0_reasonAgainst_53 : decode cX0_reasonAgainst 53 = .ok (.getfield 9, 3) := by decide +kernel
theorem dX0_reasonAgainst_56 : decode cX0_reasonAgainst 56 = .ok (.iload_n 2, 1) := by decide +kernel
theorem dX0_reasonAgainst_57 : decode cX0_reasonAgainst 57 = .ok (.iaload, 1) := by decide +kernel
theorem dX0_reasonAgainst_58 : decode cX0_reasonAgainst 58 = .ok (.bipush (-6), 2) := by decide +kernel
theorem dX0_reasonAgainst_60 : decode cX0_reasonAgainst 60 = .ok (.if_icmp .ne 5, 3) := by decide +kernel
theorem dX0_reasonAgainst_63 : decode cX0_reasonAgainst 63 = .ok (.iconst 1, 1) := by decide +kernel
theorem dX0_reasonAgainst_64 : decode cX0_reasonAgainst 64 = .ok (.ireturn, 1) := by decide +kernel
theorem dX0_reasonAgainst_65 : decode cX0_reasonAgainst 65 = .ok (.iload_n 1, 1) := by decide +kernel
theorem dX0_reasonAgainst_66 : decode cX0_reasonAgainst 66 = .ok (.tableswitch 87 1 3 #[26, 43, 58], 26) := by decide +kernel
theorem dX0_reasonAgainst_92 : decode cX0_reasonAgainst 92 = .ok (.aload_n 0, 1) := by decide +kernel
theorem dX0_reasonAgainst_93 : decode cX0_reasonAgainst 93 = .ok (.getfield 18, 3) := by decide +kernel
theorem dX0_reasonAgainst_96 : decode cX0_reasonAgainst 96 = .ok (.iload_n 2, 1) := by decide +kernel
theorem dX0_reasonAgainst_97 : decode cX0_reasonAgainst 97 = .ok (.iaload, 1) := by decide +kernel
theorem dX0_reasonAgainst_98 : decode cX0_reasonAgainst 98 = .ok (.bipush 9, 2) := by decide +kernel
theorem dX0_reasonAgainst_100 : decode cX0_reasonAgainst 100 = .ok (.if_icmp .lt 7, 3) := by decide +kernel
theorem dX0_reasonAgainst_103 : decode cX0_reasonAgainst 103 = .ok (.iconst 5, 1) := by decide +kernel
theorem dX0_reasonAgainst_104 : decode cX0_reasonAgainst 104 = .ok (.goto 4, 3) := by decide +kernel
theorem dX0_reasonAgainst_107 : decode cX0_reasonAgainst 107 = .ok (.iconst 0, 1) := by decide +kernel
theorem dX0_reasonAgainst_108 : decode cX0_reasonAgainst 108 = .ok (.ireturn, 1) := by decide +kernel
theorem dX0_reasonAgainst_109 : decode cX0_reasonAgainst 109 = .ok (.aload_n 0, 1) := by decide +kernel
theorem dX0_reasonAgainst_110 : decode cX0_reasonAgainst 110 = .ok (.getfield 18, 3) := by decide +kernel
theorem dX0_reasonAgainst_113 : decode cX0_reasonAgainst 113 = .ok (.iload_n 2, 1) := by decide +kernel
theorem dX0_reasonAgainst_114 : decode cX0_reasonAgainst 114 = .ok (.iaload, 1) := by decide +kernel
theorem dX0_reasonAgainst_115 : decode cX0_reasonAgainst 115 = .ok (.ifCond .gt 7, 3) := by decide +kernel
theorem dX0_reasonAgainst_118 : decode cX0_reasonAgainst 118 = .ok (.iconst 5, 1) := by decide +kernel
theorem dX0_reasonAgainst_119 : decode cX0_reasonAgainst 119 = .ok (.goto 4, 3) := by decide +kernel
theorem dX0_reasonAgainst_122 : decode cX0_reasonAgainst 122 = .ok (.iconst 0, 1) := by decide +kernel
theorem dX0_reasonAgainst_123 : decode cX0_reasonAgainst 123 = .ok (.ireturn, 1) := by decide +kernel
theorem dX0_reasonAgainst_124 : decode cX0_reasonAgainst 124 = .ok (.aload_n 0, 1) := by decide +kernel
theorem dX0_reasonAgainst_125 : decode cX0_reasonAgainst 125 = .ok (.iload_n 2, 1) := by decide +kernel
theorem dX0_reasonAgainst_126 : decode cX0_reasonAgainst 126 = .ok (.invokevirtual 57, 3) := by decide +kernel
theorem dX0_reasonAgainst_129 : decode cX0_reasonAgainst 129 = .ok (.ifCond .eq 7, 3) := by decide +kernel
theorem dX0_reasonAgainst_132 : decode cX0_reasonAgainst 132 = .ok (.iconst 3, 1) := by decide +kernel
theorem dX0_reasonAgainst_133 : decode cX0_reasonAgainst 133 = .ok (.goto 19, 3) := by decide +kernel
theorem dX0_reasonAgainst_136 : decode cX0_reasonAgainst 136 = .ok (.aload_n 0, 1) := by decide +kernel
theorem dX0_reasonAgainst_137 : decode cX0_reasonAgainst 137 = .ok (.getfield 28, 3) := by decide +kernel
theorem dX0_reasonAgainst_140 : decode cX0_reasonAgainst 140 = .ok (.iload_n 2, 1) := by decide +kernel
theorem dX0_reasonAgainst_141 : decode cX0_reasonAgainst 141 = .ok (.invokestatic 43, 3) := by decide +kernel
theorem dX0_reasonAgainst_144 : decode cX0_reasonAgainst 144 = .ok (.ifCond .eq 7, 3) := by decide +kernel
theorem dX0_reasonAgainst_147 : decode cX0_reasonAgainst 147 = .ok (.iconst 4, 1) := by decide +kernel
theorem dX0_reasonAgainst_148 : decode cX0_reasonAgainst 148 = .ok (.goto 4, 3) := by decide +kernel
theorem dX0_reasonAgainst_151 : decode cX0_reasonAgainst 151 = .ok (.iconst 0, 1) := by decide +kernel
theorem dX0_reasonAgainst_152 : decode cX0_reasonAgainst 152 = .ok (.ireturn, 1) := by decide +kernel
theorem dX0_reasonAgainst_153 : decode cX0_reasonAgainst 153 = .ok (.aload_n 0, 1) := by decide +kernel
theorem dX0_reasonAgainst_154 : decode cX0_reasonAgainst 154 = .ok (.getfield 31, 3) := by decide +kernel
theorem dX0_reasonAgainst_157 : decode cX0_reasonAgainst 157 = .ok (.iload_n 2, 1) := by decide +kernel
theorem dX0_reasonAgainst_158 : decode cX0_reasonAgainst 158 = .ok (.invokestatic 43, 3) := by decide +kernel
theorem dX0_reasonAgainst_161 : decode cX0_reasonAgainst 161 = .ok (.ifCond .ne 17, 3) := by decide +kernel
theorem dX0_reasonAgainst_164 : decode cX0_reasonAgainst 164 = .ok (.aload_n 0, 1) := by decide +kernel
theorem dX0_reasonAgainst_165 : decode cX0_reasonAgainst 165 = .ok (.getfield 31, 3) := by decide +kernel
theorem dX0_reasonAgainst_168 : decode cX0_reasonAgainst 168 = .ok (.invokestatic 64, 3) := by decide +kernel
theorem dX0_reasonAgainst_171 : decode cX0_reasonAgainst 171 = .ok (.aload_n 0, 1) := by decide +kernel
theorem dX0_reasonAgainst_172 : decode cX0_reasonAgainst 172 = .ok (.getfield 21, 3) := by decide +kernel
theorem dX0_reasonAgainst_175 : decode cX0_reasonAgainst 175 = .ok (.if_icmp .ge 7, 3) := by decide +kernel
theorem dX0_reasonAgainst_178 : decode cX0_reasonAgainst 178 = .ok (.iconst 0, 1) := by decide +kernel
theorem dX0_reasonAgainst_179 : decode cX0_reasonAgainst 179 = .ok (.goto 5, 3) := by decide +kernel
theorem dX0_reasonAgainst_182 : decode cX0_reasonAgainst 182 = .ok (.bipush 6, 2) := by decide +kernel
theorem dX0_reasonAgainst_184 : decode cX0_reasonAgainst 184 = .ok (.ireturn, 1) := by decide +kernel
theorem dX0_perform_0 : decode cX0_perform 0 = .ok (.iload_n 1, 1) := by decide +kernel
theorem dX0_perform_1 : decode cX0_perform 1 = .ok (.tableswitch 105 0 4 #[35, 58, 70, 82, 91], 35) := by decide +kernel
theorem dX0_perform_36 : decode cX0_perform 36 = .ok (.aload_n 0, 1) := by decide +kernel
theorem dX0_perform_37 : decode cX0_perform 37 = .ok (.getfield 9, 3) := by decide +kernel
theorem dX0_perform_40 : decode cX0_perform 40 = .ok (.iload_n 2, 1) := by decide +kernel
theorem dX0_perform_41 : decode cX0_perform 41 = .ok (.iload_n 3, 1) := by decide +kernel
theorem dX0_perform_42 : decode cX0_perform 42 = .ok (.iastore, 1) := by decide +kernel
theorem dX0_perform_43 : decode cX0_perform 43 = .ok (.aload_n 0, 1) := by decide +kernel
theorem dX0_perform_44 : decode cX0_perform 44 = .ok (.dup, 1) := by decide +kernel
theorem dX0_perform_45 : decode cX0_perform 45 = .ok (.getfield 28, 3) := by decide +kernel
theorem dX0_perform_48 : decode cX0_perform 48 = .ok (.iconst 1, 1) := by decide +kernel
theorem dX0_perform_49 : decode cX0_perform 49 = .ok (.iload_n 2, 1) := by decide +kernel
theorem dX0_perform_50 : decode cX0_perform 50 = .ok (.ishl, 1) := by decide +kernel
theorem dX0_perform_51 : decode cX0_perform 51 = .ok (.iconst (-1), 1) := by decide +kernel
theorem dX0_perform_52 : decode cX0_perform 52 = .ok (.ixor, 1) := by decide +kernel
theorem dX0_perform_53 : decode cX0_perform 53 = .ok (.iand, 1) := by decide +kernel
theorem dX0_perform_54 : decode cX0_perform 54 = .ok (.putfield 28, 3) := by decide +kernel
theorem dX0_perform_57 : decode cX0_perform 57 = .ok (.iconst 0, 1) := by decide +kernel
theorem dX0_perform_58 : decode cX0_perform 58 = .ok (.ireturn, 1) := by decide +kernel
theorem dX0_perform_59 : decode cX0_perform 59 = .ok (.aload_n 0, 1) := by decide +kernel
theorem dX0_perform_60 : decode cX0_perform 60 = .ok (.getfield 18, 3) := by decide +kernel
theorem dX0_perform_63 : decode cX0_perform 63 = .ok (.iload_n 2, 1) := by decide +kernel
theorem dX0_perform_64 : decode cX0_perform 64 = .ok (.dup2, 1) := by decide +kernel
theorem dX0_perform_65 : decode cX0_perform 65 = .ok (.iaload, 1) := by decide +kernel
theorem dX0_perform_66 : decode cX0_perform 66 = .ok (.iconst 1, 1) := by decide +kernel
theorem dX0_perform_67 : decode cX0_perform 67 = .ok (.iadd, 1) := by decide +kernel
theorem dX0_perform_68 : decode cX0_perform 68 = .ok (.iastore, 1) := by decide +kernel
theorem dX0_perform_69 : decode cX0_perform 69 = .ok (.iconst 0, 1) := by decide +kernel
theorem dX0_perform_70 : decode cX0_perform 70 = .ok (.ireturn, 1) := by decide +kernel
theorem dX0_perform_71 : decode cX0_perform 71 = .ok (.aload_n 0, 1) := by decide +kernel
theorem dX0_perform_72 : decode cX0_perform 72 = .ok (.getfield 18, 3) := by decide +kernel
theorem dX0_perform_75 : decode cX0_perform 75 = .ok (.iload_n 2, 1) := by decide +kernel
theorem dX0_perform_76 : decode cX0_perform 76 = .ok (.dup2, 1) := by decide +kernel
theorem dX0_perform_77 : decode cX0_perform 77 = .ok (.iaload, 1) := by decide +kernel
theorem dX0_perform_78 : decode cX0_perform 78 = .ok (.iconst 1, 1) := by decide +kernel
theorem dX0_perform_79 : decode cX0_perform 79 = .ok (.isub, 1) := by decide +kernel
theorem dX0_perform_80 : decode cX0_perform 80 = .ok (.iastore, 1) := by decide +kernel
theorem dX0_perform_81 : decode cX0_perform 81 = .ok (.iconst 0, 1) := by decide +kernel
theorem dX0_perform_82 : decode cX0_perform 82 = .ok (.ireturn, 1) := by decide +kernel
theorem dX0_perform_83 : decode cX0_perform 83 = .ok (.aload_n 0, 1) := by decide +kernel
theorem dX0_perform_84 : decode cX0_perform 84 = .ok (.getfield 15, 3) := by decide +kernel
theorem dX0_perform_87 : decode cX0_perform 87 = .ok (.iload_n 2, 1) := by decide +kernel
theorem dX0_perform_88 : decode cX0_perform 88 = .ok (.iconst 3, 1) := by decide +kernel
theorem dX0_perform_89 : decode cX0_perform 89 = .ok (.iastore, 1) := by decide +kernel
theorem dX0_perform_90 : decode cX0_perform 90 = .ok (.iconst 0, 1) := by decide +kernel
theorem dX0_perform_91 : decode cX0_perform 91 = .ok (.ireturn, 1) := by decide +kernel
theorem dX0_perform_92 : decode cX0_perform 92 = .ok (.aload_n 0, 1) := by decide +kernel
theorem dX0_perform_93 : decode cX0_perform 93 = .ok (.dup, 1) := by decide +kernel
theorem dX0_perform_94 : decode cX0_perform 94 = .ok (.getfield 31, 3) := by decide +kernel
theorem dX0_perform_97 : decode cX0_perform 97 = .ok (.iconst 1, 1) := by decide +kernel
theorem dX0_perform_98 : decode cX0_perform 98 = .ok (.iload_n 2, 1) := by decide +kernel
theorem dX0_perform_99 : decode cX0_perform 99 = .ok (.ishl, 1) := by decide +kernel
theorem dX0_perform_100 : decode cX0_perform 100 = .ok (.ixor, 1) := by decide +kernel
theorem dX0_perform_101 : decode cX0_perform 101 = .ok (.putfield 31, 3) := by decide +kernel
theorem dX0_perform_104 : decode cX0_perform 104 = .ok (.iconst 0, 1) := by decide +kernel
theorem dX0_perform_105 : decode cX0_perform 105 = .ok (.ireturn, 1) := by decide +kernel
theorem dX0_perform_106 : decode cX0_perform 106 = .ok (.aload_n 0, 1) := by decide +kernel
theorem dX0_perform_107 : decode cX0_perform 107 = .ok (.invokevirtual 69, 3) := by decide +kernel
theorem dX0_perform_110 : decode cX0_perform 110 = .ok (.ireturn, 1) := by decide +kernel
theorem dX0_passNight_0 : decode cX0_passNight 0 = .ok (.aload_n 0, 1) := by decide +kernel
theorem dX0_passNight_1 : decode cX0_passNight 1 = .ok (.dup, 1) := by decide +kernel
theorem dX0_passNight_2 : decode cX0_passNight 2 = .ok (.getfield 34, 3) := by decide +kernel
theorem dX0_passNight_5 : decode cX0_passNight 5 = .ok (.iconst 1, 1) := by decide +kernel
theorem dX0_passNight_6 : decode cX0_passNight 6 = .ok (.iadd, 1) := by decide +kernel
theorem dX0_passNight_7 : decode cX0_passNight 7 = .ok (.putfield 34, 3) := by decide +kernel
theorem dX0_passNight_10 : decode cX0_passNight 10 = .ok (.iconst 0, 1) := by decide +kernel
theorem dX0_passNight_11 : decode cX0_passNight 11 = .ok (.istore_n 1, 1) := by decide +kernel
theorem dX0_passNight_12 : decode cX0_passNight 12 = .ok (.iconst 0, 1) := by decide +kernel
theorem dX0_passNight_13 : decode cX0_passNight 13 = .ok (.istore_n 2, 1) := by decide +kernel
theorem dX0_passNight_14 : decode cX0_passNight 14 = .ok (.iload_n 2, 1) := by decide +kernel
theorem dX0_passNight_15 : decode cX0_passNight 15 = .ok (.bipush 6, 2) := by decide +kernel
theorem dX0_passNight_17 : decode cX0_passNight 17 = .ok (.if_icmp .ge 31, 3) := by decide +kernel
theorem dX0_passNight_20 : decode cX0_passNight 20 = .ok (.aload_n 0, 1) := by decide +kernel
theorem dX0_passNight_21 : decode cX0_passNight 21 = .ok (.iload_n 2, 1) := by decide +kernel
theorem dX0_passNight_22 : decode cX0_passNight 22 = .ok (.invokevirtual 57, 3) := by decide +kernel
theorem dX0_passNight_25 : decode cX0_passNight 25 = .ok (.ifCond .eq 17, 3) := by decide +kernel
theorem dX0_passNight_28 : decode cX0_passNight 28 = .ok (.aload_n 0, 1) := by decide +kernel
theorem dX0_passNight_29 : decode cX0_passNight 29 = .ok (.iload_n 2, 1) := by decide +kernel
theorem dX0_passNight_30 : decode cX0_passNight 30 = .ok (.invokevirtual 73, 3) := by decide +kernel
theorem dX0_passNight_33 : decode cX0_passNight 33 = .ok (.ifCond .eq 9, 3) := by decide +kernel
theorem dX0_passNight_36 : decode cX0_passNight 36 = .ok (.iload_n 1, 1) := by decide +kernel
theorem dX0_passNight_37 : decode cX0_passNight 37 = .ok (.iconst 1, 1) := by decide +kernel
theorem dX0_passNight_38 : decode cX0_passNight 38 = .ok (.iload_n 2, 1) := by decide +kernel
theorem dX0_passNight_39 : decode cX0_passNight 39 = .ok (.ishl, 1) := by decide +kernel
theorem dX0_passNight_40 : decode cX0_passNight 40 = .ok (.ior, 1) := by decide +kernel
theorem dX0_passNight_41 : decode cX0_passNight 41 = .ok (.istore_n 1, 1) := by decide +kernel
theorem dX0_passNight_42 : decode cX0_passNight 42 = .ok (.iinc 2 1, 3) := by decide +kernel
theorem dX0_passNight_45 : decode cX0_passNight 45 = .ok (.goto (-31), 3) := by decide +kernel
theorem dX0_passNight_48 : decode cX0_passNight 48 = .ok (.aload_n 0, 1) := by decide +kernel
theorem dX0_passNight_49 : decode cX0_passNight 49 = .ok (.dup, 1) := by decide +kernel
theorem dX0_passNight_50 : decode cX0_passNight 50 = .ok (.getfield 25, 3) := by decide +kernel
theorem dX0_passNight_53 : decode cX0_passNight 53 = .ok (.iload_n 1, 1) := by decide +kernel
theorem dX0_passNight_54 : decode cX0_passNight 54 = .ok (.ior, 1) := by decide +kernel
theorem dX0_passNight_55 : decode cX0_passNight 55 = .ok (.putfield 25, 3) := by decide +kernel
theorem dX0_passNight_58 : decode cX0_passNight 58 = .ok (.iconst 0, 1) := by decide +kernel
theorem dX0_passNight_59 : decode cX0_passNight 59 = .ok (.istore_n 2, 1) := by decide +kernel
theorem dX0_passNight_60 : decode cX0_passNight 60 = .ok (.iload_n 2, 1) := by decide +kernel
theorem dX0_passNight_61 : decode cX0_passNight 61 = .ok (.bipush 6, 2) := by decide +kernel
theorem dX0_passNight_63 : decode cX0_passNight 63 = .ok (.if_icmp .ge 40, 3) := by decide +kernel
theorem dX0_passNight_66 : decode cX0_passNight 66 = .ok (.aload_n 0, 1) := by decide +kernel
theorem dX0_passNight_67 : decode cX0_passNight 67 = .ok (.iload_n 2, 1) := by decide +kernel
theorem dX0_passNight_68 : decode cX0_passNight 68 = .ok (.invokevirtual 57, 3) := by decide +kernel
theorem dX0_passNight_71 : decode cX0_passNight 71 = .ok (.ifCond .eq 26, 3) := by decide +kernel
theorem dX0_passNight_74 : decode cX0_passNight 74 = .ok (.aload_n 0, 1) := by decide +kernel
theorem dX0_passNight_75 : decode cX0_passNight 75 = .ok (.getfield 18, 3) := by decide +kernel
theorem dX0_passNight_78 : decode cX0_passNight 78 = .ok (.iload_n 2, 1) := by decide +kernel
theorem dX0_passNight_79 : decode cX0_passNight 79 = .ok (.iconst 0, 1) := by decide +kernel
theorem dX0_passNight_80 : decode cX0_passNight 80 = .ok (.aload_n 0, 1) := by decide +kernel
theorem dX0_passNight_81 : decode cX0_passNight 81 = .ok (.getfield 18, 3) := by decide +kernel
theorem dX0_passNight_84 : decode cX0_passNight 84 = .ok (.iload_n 2, 1) := by decide +kernel
theorem dX0_passNight_85 : decode cX0_passNight 85 = .ok (.iaload, 1) := by decide +kernel
theorem dX0_passNight_86 : decode cX0_passNight 86 = .ok (.aload_n 0, 1) := by decide +kernel
theorem dX0_passNight_87 : decode cX0_passNight 87 = .ok (.iload_n 2, 1) := by decide +kernel
theorem dX0_passNight_88 : decode cX0_passNight 88 = .ok (.iload_n 1, 1) := by decide +kernel
theorem dX0_passNight_89 : decode cX0_passNight 89 = .ok (.invokevirtual 53, 3) := by decide +kernel
theorem dX0_passNight_92 : decode cX0_passNight 92 = .ok (.isub, 1) := by decide +kernel
theorem dX0_passNight_93 : decode cX0_passNight 93 = .ok (.invokestatic 76, 3) := by decide +kernel
theorem dX0_passNight_96 : decode cX0_passNight 96 = .ok (.iastore, 1) := by decide +kernel
theorem dX0_passNight_97 : decode cX0_passNight 97 = .ok (.iinc 2 1, 3) := by decide +kernel
theorem dX0_passNight_100 : decode cX0_passNight 100 = .ok (.goto (-40), 3) := by decide +kernel
theorem dX0_passNight_103 : decode cX0_passNight 103 = .ok (.iload_n 1, 1) := by decide +kernel
theorem dX0_passNight_104 : decode cX0_passNight 104 = .ok (.ireturn, 1) := by decide +kernel
theorem dX0_smoulder_0 : decode cX0_smoulder 0 = .ok (.aload_n 0, 1) := by decide +kernel
theorem dX0_smoulder_1 : decode cX0_smoulder 1 = .ok (.getfield 15, 3) := by decide +kernel
theorem dX0_smoulder_4 : decode cX0_smoulder 4 = .ok (.iload_n 1, 1) := by decide +kernel
theorem dX0_smoulder_5 : decode cX0_smoulder 5 = .ok (.iaload, 1) := by decide +kernel
theorem dX0_smoulder_6 : decode cX0_smoulder 6 = .ok (.iconst 5, 1) := by decide +kernel
theorem dX0_smoulder_7 : decode cX0_smoulder 7 = .ok (.iadd, 1) := by decide +kernel
theorem dX0_smoulder_8 : decode cX0_smoulder 8 = .ok (.aload_n 0, 1) := by decide +kernel
theorem dX0_smoulder_9 : decode cX0_smoulder 9 = .ok (.getfield 18, 3) := by decide +kernel
theorem dX0_smoulder_12 : decode cX0_smoulder 12 = .ok (.iload_n 1, 1) := by decide +kernel
theorem dX0_smoulder_13 : decode cX0_smoulder 13 = .ok (.iaload, 1) := by decide +kernel
theorem dX0_smoulder_14 : decode cX0_smoulder 14 = .ok (.isub, 1) := by decide +kernel
theorem dX0_smoulder_15 : decode cX0_smoulder 15 = .ok (.istore_n 2, 1) := by decide +kernel
theorem dX0_smoulder_16 : decode cX0_smoulder 16 = .ok (.iload_n 2, 1) := by decide +kernel
theorem dX0_smoulder_17 : decode cX0_smoulder 17 = .ok (.ifCond .gt 24, 3) := by decide +kernel
theorem dX0_smoulder_20 : decode cX0_smoulder 20 = .ok (.aload_n 0, 1) := by decide +kernel
theorem dX0_smoulder_21 : decode cX0_smoulder 21 = .ok (.getfield 15, 3) := by decide +kernel
theorem dX0_smoulder_24 : decode cX0_smoulder 24 = .ok (.iload_n 1, 1) := by decide +kernel
theorem dX0_smoulder_25 : decode cX0_smoulder 25 = .ok (.iconst 0, 1) := by decide +kernel
theorem dX0_smoulder_26 : decode cX0_smoulder 26 = .ok (.iastore, 1) := by decide +kernel
theorem dX0_smoulder_27 : decode cX0_smoulder 27 = .ok (.aload_n 0, 1) := by decide +kernel
theorem dX0_smoulder_28 : decode cX0_smoulder 28 = .ok (.dup, 1) := by decide +kernel
theorem dX0_smoulder_29 : decode cX0_smoulder 29 = .ok (.getfield 28, 3) := by decide +kernel
theorem dX0_smoulder_32 : decode cX0_smoulder 32 = .ok (.iconst 1, 1) := by decide +kernel
theorem dX0_smoulder_33 : decode cX0_smoulder 33 = .ok (.iload_n 1, 1) := by decide +kernel
theorem dX0_smoulder_34 : decode cX0_smoulder 34 = .ok (.ishl, 1) := by decide +kernel
theorem dX0_smoulder_35 : decode cX0_smoulder 35 = .ok (.ior, 1) := by decide +kernel
theorem dX0_smoulder_36 : decode cX0_smoulder 36 = .ok (.putfield 28, 3) := by decide +kernel
theorem dX0_smoulder_39 : decode cX0_smoulder 39 = .ok (.iconst 0, 1) := by decide +kernel
theorem dX0_smoulder_40 : decode cX0_smoulder 40 = .ok (.ireturn, 1) := by decide +kernel
theorem dX0_smoulder_41 : decode cX0_smoulder 41 = .ok (.iload_n 2, 1) := by decide +kernel
theorem dX0_smoulder_42 : decode cX0_smoulder 42 = .ok (.bipush 9, 2) := by decide +kernel
theorem dX0_smoulder_44 : decode cX0_smoulder 44 = .ok (.if_icmp .gt 12, 3) := by decide +kernel
theorem dX0_smoulder_47 : decode cX0_smoulder 47 = .ok (.aload_n 0, 1) := by decide +kernel
theorem dX0_smoulder_48 : decode cX0_smoulder 48 = .ok (.getfield 15, 3) := by decide +kernel
theorem dX0_smoulder_51 : decode cX0_smoulder 51 = .ok (.iload_n 1, 1) := by decide +kernel
theorem dX0_smoulder_52 : decode cX0_smoulder 52 = .ok (.iload_n 2, 1) := by decide +kernel
theorem dX0_smoulder_53 : decode cX0_smoulder 53 = .ok (.iastore, 1) := by decide +kernel
theorem dX0_smoulder_54 : decode cX0_smoulder 54 = .ok (.iconst 0, 1) := by decide +kernel
theorem dX0_smoulder_55 : decode cX0_smoulder 55 = .ok (.ireturn, 1) := by decide +kernel
theorem dX0_smoulder_56 : decode cX0_smoulder 56 = .ok (.aload_n 0, 1) := by decide +kernel
theorem dX0_smoulder_57 : decode cX0_smoulder 57 = .ok (.getfield 31, 3) := by decide +kernel
theorem dX0_smoulder_60 : decode cX0_smoulder 60 = .ok (.iload_n 1, 1) := by decide +kernel
theorem dX0_smoulder_61 : decode cX0_smoulder 61 = .ok (.invokestatic 43, 3) := by decide +kernel
theorem dX0_smoulder_64 : decode cX0_smoulder 64 = .ok (.istore_n 3, 1) := by decide +kernel
theorem dX0_smoulder_65 : decode cX0_smoulder 65 = .ok (.aload_n 0, 1) := by decide +kernel
theorem dX0_smoulder_66 : decode cX0_smoulder 66 = .ok (.getfield 15, 3) := by decide +kernel
theorem dX0_smoulder_69 : decode cX0_smoulder 69 = .ok (.iload_n 1, 1) := by decide +kernel
theorem dX0_smoulder_70 : decode cX0_smoulder 70 = .ok (.iload_n 3, 1) := by decide +kernel
theorem dX0_smoulder_71 : decode cX0_smoulder 71 = .ok (.ifCond .eq 7, 3) := by decide +kernel
theorem dX0_smoulder_74 : decode cX0_smoulder 74 = .ok (.iconst 5, 1) := by decide +kernel
theorem dX0_smoulder_75 : decode cX0_smoulder 75 = .ok (.goto 5, 3) := by decide +kernel
theorem dX0_smoulder_78 : decode cX0_smoulder 78 = .ok (.bipush 9, 2) := by decide +kernel
theorem dX0_smoulder_80 : decode cX0_smoulder 80 = .ok (.iastore, 1) := by decide +kernel
theorem dX0_smoulder_81 : decode cX0_smoulder 81 = .ok (.iload_n 3, 1) := by decide +kernel
theorem dX0_smoulder_82 : decode cX0_smoulder 82 = .ok (.ifCond .ne 7, 3) := by decide +kernel
theorem dX0_smoulder_85 : decode cX0_smoulder 85 = .ok (.iconst 1, 1) := by decide +kernel
theorem dX0_smoulder_86 : decode cX0_smoulder 86 = .ok (.goto 4, 3) := by decide +kernel
theorem dX0_smoulder_89 : decode cX0_smoulder 89 = .ok (.iconst 0, 1) := by decide +kernel
theorem dX0_smoulder_90 : decode cX0_smoulder 90 = .ok (.ireturn, 1) := by decide +kernel
theorem dX1_init_0 : decode cX1_init 0 = .ok (.aload_n 0, 1) := by decide +kernel
theorem dX1_init_1 : decode cX1_init 1 = .ok (.invokespecial 3, 3) := by decide +kernel
theorem dX1_init_4 : decode cX1_init 4 = .ok (.aload_n 0, 1) := by decide +kernel
theorem dX1_init_5 : decode cX1_init 5 = .ok (.bipush 8, 2) := by decide +kernel
theorem dX1_init_7 : decode cX1_init 7 = .ok (.newarray .int, 2) := by decide +kernel
theorem dX1_init_9 : decode cX1_init 9 = .ok (.putfield 9, 3) := by decide +kernel
theorem dX1_init_12 : decode cX1_init 12 = .ok (.aload_n 0, 1) := by decide +kernel
theorem dX1_init_13 : decode cX1_init 13 = .ok (.bipush 8, 2) := by decide +kernel
theorem dX1_init_15 : decode cX1_init 15 = .ok (.newarray .int, 2) := by decide +kernel
theorem dX1_init_17 : decode cX1_init 17 = .ok (.putfield 15, 3) := by decide +kernel
theorem dX1_init_20 : decode cX1_init 20 = .ok (.return_, 1) := by decide +kernel
theorem dX1_readNights_0 : decode cX1_readNights 0 = .ok (.iload_n 1, 1) := by decide +kernel
theorem dX1_readNights_1 : decode cX1_readNights 1 = .ok (.istore_n 3, 1) := by decide +kernel
theorem dX1_readNights_2 : decode cX1_readNights 2 = .ok (.iload_n 2, 1) := by decide +kernel
theorem dX1_readNights_3 : decode cX1_readNights 3 = .ok (.iconst 1, 1) := by decide +kernel
theorem dX1_readNights_4 : decode cX1_readNights 4 = .ok (.isub, 1) := by decide +kernel
theorem dX1_readNights_5 : decode cX1_readNights 5 = .ok (.istore 4, 2) := by decide +kernel
theorem dX1_readNights_7 : decode cX1_readNights 7 = .ok (.iload 4, 2) := by decide +kernel
theorem dX1_readNights_9 : decode cX1_readNights 9 = .ok (.ifCond .lt 43, 3) := by decide +kernel
theorem dX1_readNights_12 : decode cX1_readNights 12 = .ok (.iload 4, 2) := by decide +kernel
theorem dX1_readNights_14 : decode cX1_readNights 14 = .ok (.bipush 8, 2) := by decide +kernel
theorem dX1_readNights_16 : decode cX1_readNights 16 = .ok (.if_icmp .ge 36, 3) := by decide +kernel
theorem dX1_readNights_19 : decode cX1_readNights 19 = .ok (.iload_n 3, 1) := by decide +kernel
theorem dX1_readNights_20 : decode cX1_readNights 20 = .ok (.bipush 10, 2) := by decide +kernel
theorem dX1_readNights_22 : decode cX1_readNights 22 = .ok (.irem, 1) := by decide +kernel
theorem dX1_readNights_23 : decode cX1_readNights 23 = .ok (.istore 5, 2) := by decide +kernel
theorem dX1_readNights_25 : decode cX1_readNights 25 = .ok (.iload 5, 2) := by decide +kernel
theorem dX1_readNights_27 : decode cX1_readNights 27 = .ok (.ifCond .gt 5, 3) := by decide +kernel
theorem dX1_readNights_30 : decode cX1_readNights 30 = .ok (.iconst 0, 1) := by decide +kernel
theorem dX1_readNights_31 : decode cX1_readNights 31 = .ok (.ireturn, 1) := by decide +kernel
theorem dX1_readNights_32 : decode cX1_readNights 32 = .ok (.aload_n 0, 1) := by decide +kernel
theorem dX1_readNights_33 : decode cX1_readNights 33 = .ok (.getfield 9, 3) := by decide +kernel
theorem dX1_readNights_36 : decode cX1_readNights 36 = .ok (.iload 4, 2) := by decide +kernel
theorem dX1_readNights_38 : decode cX1_readNights 38 = .ok (.iload 5, 2) := by decide +kernel
theorem dX1_readNights_40 : decode cX1_readNights 40 = .ok (.iastore, 1) := by decide +kernel
theorem dX1_readNights_41 : decode cX1_readNights 41 = .ok (.iload_n 3, 1) := by decide +kernel
theorem dX1_readNights_42 : decode cX1_readNights 42 = .ok (.bipush 10, 2) := by decide +kernel
theorem dX1_readNights_44 : decode cX1_readNights 44 = .ok (.idiv, 1) := by decide +kernel
theorem dX1_readNights_45 : decode cX1_readNights 45 = .ok (.istore_n 3, 1) := by decide +kernel
theorem dX1_readNights_46 : decode cX1_readNights 46 = .ok (.iinc 4 (-1), 3) := by decide +kernel
theorem dX1_readNights_49 : decode cX1_readNights 49 = .ok (.goto (-42), 3) := by decide +kernel
theorem dX1_readNights_52 : decode cX1_readNights 52 = .ok (.iload_n 3, 1) := by decide +kernel
theorem dX1_readNights_53 : decode cX1_readNights 53 = .ok (.ifCond .ne 7, 3) := by decide +kernel
theorem dX1_readNights_56 : decode cX1_readNights 56 = .ok (.iconst 1, 1) := by decide +kernel
theorem dX1_readNights_57 : decode cX1_readNights 57 = .ok (.goto 4, 3) := by decide +kernel
theorem dX1_readNights_60 : decode cX1_readNights 60 = .ok (.iconst 0, 1) := by decide +kernel
theorem dX1_readNights_61 : decode cX1_readNights 61 = .ok (.ireturn, 1) := by decide +kernel
theorem dX1_readDays_0 : decode cX1_readDays 0 = .ok (.lload_n 1, 1) := by decide +kernel
theorem dX1_readDays_1 : decode cX1_readDays 1 = .ok (.lconst 0, 1) := by decide +kernel
theorem dX1_readDays_2 : decode cX1_readDays 2 = .ok (.lcmp, 1) := by decide +kernel
theorem dX1_readDays_3 : decode cX1_readDays 3 = .ok (.ifCond .ge 5, 3) := by decide +kernel
theorem dX1_readDays_6 : decode cX1_readDays 6 = .ok (.iconst 0, 1) := by decide +kernel
theorem dX1_readDays_7 : decode cX1_readDays 7 = .ok (.ireturn, 1) := by decide +kernel
theorem dX1_readDays_8 : decode cX1_readDays 8 = .ok (.lload_n 1, 1) := by decide +kernel
theorem dX1_readDays_9 : decode cX1_readDays 9 = .ok (.lstore 4, 2) := by decide +kernel
theorem dX1_readDays_11 : decode cX1_readDays 11 = .ok (.iload_n 3, 1) := by decide +kernel
theorem dX1_readDays_12 : decode cX1_readDays 12 = .ok (.iconst 1, 1) := by decide +kernel
theorem dX1_readDays_13 : decode cX1_readDays 13 = .ok (.isub, 1) := by decide +kernel
theorem dX1_readDays_14 : decode cX1_readDays 14 = .ok (.istore 6, 2) := by decide +kernel
theorem dX1_readDays_16 : decode cX1_readDays 16 = .ok (.iload 6, 2) := by decide +kernel
theorem dX1_readDays_18 : decode cX1_readDays 18 = .ok (.ifCond .lt 38, 3) := by decide +kernel
theorem dX1_readDays_21 : decode cX1_readDays 21 = .ok (.iload 6, 2) := by decide +kernel
theorem dX1_readDays_23 : decode cX1_readDays 23 = .ok (.bipush 8, 2) := by decide +kernel
theorem dX1_readDays_25 : decode cX1_readDays 25 = .ok (.if_icmp .ge 31, 3) := by decide +kernel
theorem dX1_readDays_28 : decode cX1_readDays 28 = .ok (.aload_n 0, 1) := by decide +kernel
theorem dX1_readDays_29 : decode cX1_readDays 29 = .ok (.getfield 15, 3) := by decide +kernel
theorem dX1_readDays_32 : decode cX1_readDays 32 = .ok (.iload 6, 2) := by decide +kernel
theorem dX1_readDays_34 : decode cX1_readDays 34 = .ok (.lload 4, 2) := by decide +kernel
theorem dX1_readDays_36 : decode cX1_readDays 36 = .ok (.ldc2_w 18, 3) := by decide +kernel
theorem dX1_readDays_39 : decode cX1_readDays 39 = .ok (.lrem, 1) := by decide +kernel
theorem dX1_readDays_40 : decode cX1_readDays 40 = .ok (.l2i, 1) := by decide +kernel
theorem dX1_readDays_41 : decode cX1_readDays 41 = .ok (.iastore, 1) := by decide +kernel
theorem dX1_readDays_42 : decode cX1_readDays 42 = .ok (.lload 4, 2) := by decide +kernel
theorem dX1_readDays_44 : decode cX1_readDays 44 = .ok (.ldc2_w 18, 3) := by decide +kernel
theorem dX1_readDays_47 : decode cX1_readDays 47 = .ok (.ldiv, 1) := by decide +kernel
theorem dX1_readDays_48 : decode cX1_readDays 48 = .ok (.lstore 4, 2) := by decide +kernel
theorem dX1_readDays_50 : decode cX1_readDays 50 = .ok (.iinc 6 (-1), 3) := by decide +kernel
theorem dX1_readDays_53 : decode cX1_readDays 53 = .ok (.goto (-37), 3) := by decide +kernel
theorem dX1_readDays_56 : decode cX1_readDays 56 = .ok (.lload 4, 2) := by decide +kernel
theorem dX1_readDays_58 : decode cX1_readDays 58 = .ok (.lconst 0, 1) := by decide +kernel
theorem dX1_readDays_59 : decode cX1_readDays 59 = .ok (.lcmp, 1) := by decide +kernel
theorem dX1_readDays_60 : decode cX1_readDays 60 = .ok (.ifCond .ne 7, 3) := by decide +kernel
theorem dX1_readDays_63 : decode cX1_readDays 63 = .ok (.iconst 1, 1) := by decide +kernel
theorem dX1_readDays_64 : decode cX1_readDays 64 = .ok (.goto 4, 3) := by decide +kernel
theorem dX1_readDays_67 : decode cX1_readDays 67 = .ok (.iconst 0, 1) := by decide +kernel
theorem dX1_readDays_68 : decode cX1_readDays 68 = .ok (.ireturn, 1) := by decide +kernel
theorem dX1_mostInTime_0 : decode cX1_mostInTime 0 = .ok (.iconst 0, 1) := by decide +kernel
theorem dX1_mostInTime_1 : decode cX1_mostInTime 1 = .ok (.istore_n 2, 1) := by decide +kernel
theorem dX1_mostInTime_2 : decode cX1_mostInTime 2 = .ok (.iconst 1, 1) := by decide +kernel
theorem dX1_mostInTime_3 : decode cX1_mostInTime 3 = .ok (.istore_n 3, 1) := by decide +kernel
theorem dX1_mostInTime_4 : decode cX1_mostInTime 4 = .ok (.iload_n 3, 1) := by decide +kernel
theorem dX1_mostInTime_5 : decode cX1_mostInTime 5 = .ok (.iconst 1, 1) := by decide +kernel
theorem dX1_mostInTime_6 : decode cX1_mostInTime 6 = .ok (.iload_n 1, 1) := by decide +kernel
theorem dX1_mostInTime_7 : decode cX1_mostInTime 7 = .ok (.ishl, 1) := by decide +kernel
theorem dX1_mostInTime_8 : decode cX1_mostInTime 8 = .ok (.if_icmp .ge 31, 3) := by decide +kernel
theorem dX1_mostInTime_11 : decode cX1_mostInTime 11 = .ok (.iload_n 3, 1) := by decide +kernel
theorem dX1_mostInTime_12 : decode cX1_mostInTime 12 = .ok (.invokestatic 20, 3) := by decide +kernel
theorem dX1_mostInTime_15 : decode cX1_mostInTime 15 = .ok (.iload_n 2, 1) := by decide +kernel
theorem dX1_mostInTime_16 : decode cX1_mostInTime 16 = .ok (.invokestatic 20, 3) := by decide +kernel
theorem dX1_mostInTime_19 : decode cX1_mostInTime 19 = .ok (.if_icmp .le 14, 3) := by decide +kernel
theorem dX1_mostInTime_22 : decode cX1_mostInTime 22 = .ok (.aload_n 0, 1) := by decide +kernel
theorem dX1_mostInTime_23 : decode cX1_mostInTime 23 = .ok (.iload_n 3, 1) := by decide +kernel
theorem dX1_mostInTime_24 : decode cX1_mostInTime 24 = .ok (.iload_n 1, 1) := by decide +kernel
theorem dX1_mostInTime_25 : decode cX1_mostInTime 25 = .ok (.invokevirtual 26, 3) := by decide +kernel
theorem dX1_mostInTime_28 : decode cX1_mostInTime 28 = .ok (.ifCond .eq 5, 3) := by decide +kernel
theorem dX1_mostInTime_31 : decode cX1_mostInTime 31 = .ok (.iload_n 3, 1) := by decide +kernel
theorem dX1_mostInTime_32 : decode cX1_mostInTime 32 = .ok (.istore_n 2, 1) := by decide +kernel
theorem dX1_mostInTime_33 : decode cX1_mostInTime 33 = .ok (.iinc 3 1, 3) := by decide +kernel
theorem dX1_mostInTime_36 : decode cX1_mostInTime 36 = .ok (.goto (-32), 3) := by decide +kernel
theorem dX1_mostInTime_39 : decode cX1_mostInTime 39 = .ok (.iload_n 2, 1) := by decide +kernel
theorem dX1_mostInTime_40 : decode cX1_mostInTime 40 = .ok (.ireturn, 1) := by decide +kernel
theorem dX1_areInTime_0 : decode cX1_areInTime 0 = .ok (.iconst 0, 1) := by decide +kernel
theorem dX1_areInTime_1 : decode cX1_areInTime 1 = .ok (.istore_n 3, 1) := by decide +kernel
theorem dX1_areInTime_2 : decode cX1_areInTime 2 = .ok (.iload_n 3, 1) := by decide +kernel
theorem dX1_areInTime_3 : decode cX1_areInTime 3 = .ok (.iload_n 2, 1) := by decide +kernel
theorem dX1_areInTime_4 : decode cX1_areInTime 4 = .ok (.if_icmp .ge 46, 3) := by decide +kernel
theorem dX1_areInTime_7 : decode cX1_areInTime 7 = .ok (.iload_n 3, 1) := by decide +kernel
theorem dX1_areInTime_8 : decode cX1_areInTime 8 = .ok (.bipush 8, 2) := by decide +kernel
theorem dX1_areInTime_10 : decode cX1_areInTime 10 = .ok (.if_icmp .ge 40, 3) := by decide +kernel
theorem dX1_areInTime_13 : decode cX1_areInTime 13 = .ok (.iload_n 1, 1) := by decide +kernel
theorem dX1_areInTime_14 : decode cX1_areInTime 14 = .ok (.iload_n 3, 1) := by decide +kernel
theorem dX1_areInTime_15 : decode cX1_areInTime 15 = .ok (.invokestatic 30, 3) := by decide +kernel
theorem dX1_areInTime_18 : decode cX1_areInTime 18 = .ok (.ifCond .eq 26, 3) := by decide +kernel
theorem dX1_areInTime_21 : decode cX1_areInTime 21 = .ok (.aload_n 0, 1) := by decide +kernel
theorem dX1_areInTime_22 : decode cX1_areInTime 22 = .ok (.aload_n 0, 1) := by decide +kernel
theorem dX1_areInTime_23 : decode cX1_areInTime 23 = .ok (.getfield 15, 3) := by decide +kernel
theorem dX1_areInTime_26 : decode cX1_areInTime 26 = .ok (.iload_n 3, 1) := by decide +kernel
theorem dX1_areInTime_27 : decode cX1_areInTime 27 = .ok (.iaload, 1) := by decide +kernel
theorem dX1_areInTime_28 : decode cX1_areInTime 28 = .ok (.iload_n 1, 1) := by decide +kernel
theorem dX1_areInTime_29 : decode cX1_areInTime 29 = .ok (.iload_n 2, 1) := by decide +kernel
theorem dX1_areInTime_30 : decode cX1_areInTime 30 = .ok (.invokevirtual 33, 3) := by decide +kernel
theorem dX1_areInTime_33 : decode cX1_areInTime 33 = .ok (.aload_n 0, 1) := by decide +kernel
theorem dX1_areInTime_34 : decode cX1_areInTime 34 = .ok (.getfield 15, 3) := by decide +kernel
theorem dX1_areInTime_37 : decode cX1_areInTime 37 = .ok (.iload_n 3, 1) := by decide +kernel
theorem dX1_areInTime_38 : decode cX1_areInTime 38 = .ok (.iaload, 1) := by decide +kernel
theorem dX1_areInTime_39 : decode cX1_areInTime 39 = .ok (.if_icmp .le 5, 3) := by decide +kernel
theorem dX1_areInTime_42 : decode cX1_areInTime 42 = .ok (.iconst 0, 1) := by decide +kernel
theorem dX1_areInTime_43 : decode cX1_areInTime 43 = .ok (.ireturn, 1) := by decide +kernel
theorem dX1_areInTime_44 : decode cX1_areInTime 44 = .ok (.iinc 3 1, 3) := by decide +kernel
theorem dX1_areInTime_47 : decode cX1_areInTime 47 = .ok (.goto (-45), 3) := by decide +kernel
theorem dX1_areInTime_50 : decode cX1_areInTime 50 = .ok (.iconst 1, 1) := by decide +kernel
theorem dX1_areInTime_51 : decode cX1_areInTime 51 = .ok (.ireturn, 1) := by decide +kernel
theorem dX1_nightsUntil_0 : decode cX1_nightsUntil 0 = .ok (.iconst 0, 1) := by decide +kernel
theorem dX1_nightsUntil_1 : decode cX1_nightsUntil 1 = .ok (.istore 4, 2) := by decide +kernel
theorem dX1_nightsUntil_3 : decode cX1_nightsUntil 3 = .ok (.iconst 0, 1) := by decide +kernel
theorem dX1_nightsUntil_4 : decode cX1_nightsUntil 4 = .ok (.istore 5, 2) := by decide +kernel
theorem dX1_nightsUntil_6 : decode cX1_nightsUntil 6 = .ok (.iload 5, 2) := by decide +kernel
theorem dX1_nightsUntil_8 : decode cX1_nightsUntil 8 = .ok (.iload_n 3, 1) := by decide +kernel
theorem dX1_nightsUntil_9 : decode cX1_nightsUntil 9 = .ok (.if_icmp .ge 48, 3) := by decide +kernel
theorem dX1_nightsUntil_12 : decode cX1_nightsUntil 12 = .ok (.iload 5, 2) := by decide +kernel
theorem dX1_nightsUntil_14 : decode cX1_nightsUntil 14 = .ok (.bipush 8, 2) := by decide +kernel
theorem dX1_nightsUntil_16 : decode cX1_nightsUntil 16 = .ok (.if_icmp .ge 41, 3) := by decide +kernel
theorem dX1_nightsUntil_19 : decode cX1_nightsUntil 19 = .ok (.iload_n 2, 1) := by decide +kernel
theorem dX1_nightsUntil_20 : decode cX1_nightsUntil 20 = .ok (.iload 5, 2) := by decide +kernel
theorem dX1_nightsUntil_22 : decode cX1_nightsUntil 22 = .ok (.invokestatic 30, 3) := by decide +kernel
theorem dX1_nightsUntil_25 : decode cX1_nightsUntil 25 = .ok (.ifCond .eq 26, 3) := by decide +kernel
theorem dX1_nightsUntil_28 : decode cX1_nightsUntil 28 = .ok (.aload_n 0, 1) := by decide +kernel
theorem dX1_nightsUntil_29 : decode cX1_nightsUntil 29 = .ok (.getfield 15, 3) := by decide +kernel
theorem dX1_nightsUntil_32 : decode cX1_nightsUntil 32 = .ok (.iload 5, 2) := by decide +kernel
theorem dX1_nightsUntil_34 : decode cX1_nightsUntil 34 = .ok (.iaload, 1) := by decide +kernel
theorem dX1_nightsUntil_35 : decode cX1_nightsUntil 35 = .ok (.iload_n 1, 1) := by decide +kernel
theorem dX1_nightsUntil_36 : decode cX1_nightsUntil 36 = .ok (.if_icmp .gt 15, 3) := by decide +kernel
theorem dX1_nightsUntil_39 : decode cX1_nightsUntil 39 = .ok (.iload 4, 2) := by decide +kernel
theorem dX1_nightsUntil_41 : decode cX1_nightsUntil 41 = .ok (.aload_n 0, 1) := by decide +kernel
theorem dX1_nightsUntil_42 : decode cX1_nightsUntil 42 = .ok (.getfield 9, 3) := by decide +kernel
theorem dX1_nightsUntil_45 : decode cX1_nightsUntil 45 = .ok (.iload 5, 2) := by decide +kernel
theorem dX1_nightsUntil_47 : decode cX1_nightsUntil 47 = .ok (.iaload, 1) := by decide +kernel
theorem dX1_nightsUntil_48 : decode cX1_nightsUntil 48 = .ok (.iadd, 1) := by decide +kernel
theorem dX1_nightsUntil_49 : decode cX1_nightsUntil 49 = .ok (.istore 4, 2) := by decide +kernel
theorem dX1_nightsUntil_51 : decode cX1_nightsUntil 51 = .ok (.iinc 5 1, 3) := by decide +kernel
theorem dX1_nightsUntil_54 : decode cX1_nightsUntil 54 = .ok (.goto (-48), 3) := by decide +kernel
theorem dX1_nightsUntil_57 : decode cX1_nightsUntil 57 = .ok (.iload 4, 2) := by decide +kernel
theorem dX1_nightsUntil_59 : decode cX1_nightsUntil 59 = .ok (.ireturn, 1) := by decide +kernel
theorem dX2_init_0 : decode cX2_init 0 = .ok (.aload_n 0, 1) := by decide +kernel
theorem dX2_init_1 : decode cX2_init 1 = .ok (.invokespecial 1, 3) := by decide +kernel
theorem dX2_init_4 : decode cX2_init 4 = .ok (.aload_n 0, 1) := by decide +kernel
theorem dX2_init_5 : decode cX2_init 5 = .ok (.new 7, 3) := by decide +kernel
theorem dX2_init_8 : decode cX2_init 8 = .ok (.dup, 1) := by decide +kernel
theorem dX2_init_9 : decode cX2_init 9 = .ok (.invokespecial 9, 3) := by decide +kernel
theorem dX2_init_12 : decode cX2_init 12 = .ok (.putfield 10, 3) := by decide +kernel
theorem dX2_init_15 : decode cX2_init 15 = .ok (.aload_n 0, 1) := by decide +kernel
theorem dX2_init_16 : decode cX2_init 16 = .ok (.new 16, 3) := by decide +kernel
theorem dX2_init_19 : decode cX2_init 19 = .ok (.dup, 1) := by decide +kernel
theorem dX2_init_20 : decode cX2_init 20 = .ok (.invokespecial 18, 3) := by decide +kernel
theorem dX2_init_23 : decode cX2_init 23 = .ok (.putfield 19, 3) := by decide +kernel
theorem dX2_init_26 : decode cX2_init 26 = .ok (.return_, 1) := by decide +kernel
theorem dX3_init_0 : decode cX3_init 0 = .ok (.aload_n 0, 1) := by decide +kernel
theorem dX3_init_1 : decode cX3_init 1 = .ok (.invokespecial 3, 3) := by decide +kernel
theorem dX3_init_4 : decode cX3_init 4 = .ok (.aload_n 0, 1) := by decide +kernel
theorem dX3_init_5 : decode cX3_init 5 = .ok (.bipush 60, 2) := by decide +kernel
theorem dX3_init_7 : decode cX3_init 7 = .ok (.newarray .int, 2) := by decide +kernel
theorem dX3_init_9 : decode cX3_init 9 = .ok (.putfield 9, 3) := by decide +kernel
theorem dX3_init_12 : decode cX3_init 12 = .ok (.return_, 1) := by decide +kernel
theorem dX3_append_0 : decode cX3_append 0 = .ok (.aload_n 0, 1) := by decide +kernel
theorem dX3_append_1 : decode cX3_append 1 = .ok (.getfield 15, 3) := by decide +kernel
theorem dX3_append_4 : decode cX3_append 4 = .ok (.ifCond .lt 12, 3) := by decide +kernel
theorem dX3_append_7 : decode cX3_append 7 = .ok (.aload_n 0, 1) := by decide +kernel
theorem dX3_append_8 : decode cX3_append 8 = .ok (.getfield 15, 3) := by decide +kernel
theorem dX3_append_11 : decode cX3_append 11 = .ok (.bipush 60, 2) := by decide +kernel
theorem dX3_append_13 : decode cX3_append 13 = .ok (.if_icmp .lt 5, 3) := by decide +kernel
theorem dX3_append_16 : decode cX3_append 16 = .ok (.iconst 0, 1) := by decide +kernel
theorem dX3_append_17 : decode cX3_append 17 = .ok (.ireturn, 1) := by decide +kernel
theorem dX3_append_18 : decode cX3_append 18 = .ok (.aload_n 0, 1) := by decide +kernel
theorem dX3_append_19 : decode cX3_append 19 = .ok (.getfield 9, 3) := by decide +kernel
theorem dX3_append_22 : decode cX3_append 22 = .ok (.aload_n 0, 1) := by decide +kernel
theorem dX3_append_23 : decode cX3_append 23 = .ok (.getfield 15, 3) := by decide +kernel
theorem dX3_append_26 : decode cX3_append 26 = .ok (.iload_n 1, 1) := by decide +kernel
theorem dX3_append_27 : decode cX3_append 27 = .ok (.iastore, 1) := by decide +kernel
theorem dX3_append_28 : decode cX3_append 28 = .ok (.aload_n 0, 1) := by decide +kernel
theorem dX3_append_29 : decode cX3_append 29 = .ok (.dup, 1) := by decide +kernel
theorem dX3_append_30 : decode cX3_append 30 = .ok (.getfield 15, 3) := by decide +kernel
theorem dX3_append_33 : decode cX3_append 33 = .ok (.iconst 1, 1) := by decide +kernel
theorem dX3_append_34 : decode cX3_append 34 = .ok (.iadd, 1) := by decide +kernel
theorem dX3_append_35 : decode cX3_append 35 = .ok (.putfield 15, 3) := by decide +kernel
theorem dX3_append_38 : decode cX3_append 38 = .ok (.iconst 1, 1) := by decide +kernel
theorem dX3_append_39 : decode cX3_append 39 = .ok (.ireturn, 1) := by decide +kernel
theorem dX3_faultPlace_0 : decode cX3_faultPlace 0 = .ok (.iconst 0, 1) := by decide +kernel
theorem dX3_faultPlace_1 : decode cX3_faultPlace 1 = .ok (.istore_n 1, 1) := by decide +kernel
theorem dX3_faultPlace_2 : decode cX3_faultPlace 2 = .ok (.iconst 0, 1) := by decide +kernel
theorem dX3_faultPlace_3 : decode cX3_faultPlace 3 = .ok (.istore_n 2, 1) := by decide +kernel
theorem dX3_faultPlace_4 : decode cX3_faultPlace 4 = .ok (.iload_n 2, 1) := by decide +kernel
theorem dX3_faultPlace_5 : decode cX3_faultPlace 5 = .ok (.aload_n 0, 1) := by decide +kernel
theorem dX3_faultPlace_6 : decode cX3_faultPlace 6 = .ok (.getfield 15, 3) := by decide +kernel
theorem dX3_faultPlace_9 : decode cX3_faultPlace 9 = .ok (.if_icmp .ge 72, 3) := by decide +kernel
theorem dX3_faultPlace_12 : decode cX3_faultPlace 12 = .ok (.iload_n 2, 1) := by decide +kernel
theorem dX3_faultPlace_13 : decode cX3_faultPlace 13 = .ok (.bipush 60, 2) := by decide +kernel
theorem dX3_faultPlace_15 : decode cX3_faultPlace 15 = .ok (.if_icmp .ge 66, 3) := by decide +kernel
theorem dX3_faultPlace_18 : decode cX3_faultPlace 18 = .ok (.aload_n 0, 1) := by decide +kernel
theorem dX3_faultPlace_19 : decode cX3_faultPlace 19 = .ok (.getfield 9, 3) := by decide +kernel
theorem dX3_faultPlace_22 : decode cX3_faultPlace 22 = .ok (.iload_n 2, 1) := by decide +kernel
theorem dX3_faultPlace_23 : decode cX3_faultPlace 23 = .ok (.iaload, 1) := by decide +kernel
theorem dX3_faultPlace_24 : decode cX3_faultPlace 24 = .ok (.invokestatic 19, 3) := by decide +kernel
theorem dX3_faultPlace_27 : decode cX3_faultPlace 27 = .ok (.istore_n 3, 1) := by decide +kernel
theorem dX3_faultPlace_28 : decode cX3_faultPlace 28 = .ok (.iload_n 1, 1) := by decide +kernel
theorem dX3_faultPlace_29 : decode cX3_faultPlace 29 = .ok (.ifCond .eq 15, 3) := by decide +kernel
theorem dX3_faultPlace_32 : decode cX3_faultPlace 32 = .ok (.aload_n 0, 1) := by decide +kernel
theorem dX3_faultPlace_33 : decode cX3_faultPlace 33 = .ok (.getfield 9, 3) := by decide +kernel
theorem dX3_faultPlace_36 : decode cX3_faultPlace 36 = .ok (.iload_n 2, 1) := by decide +kernel
theorem dX3_faultPlace_37 : decode cX3_faultPlace 37 = .ok (.iaload, 1) := by decide +kernel
theorem dX3_faultPlace_38 : decode cX3_faultPlace 38 = .ok (.invokestatic 23, 3) := by decide +kernel
theorem dX3_faultPlace_41 : decode cX3_faultPlace 41 = .ok (.goto 23, 3) := by decide +kernel
theorem dX3_faultPlace_44 : decode cX3_faultPlace 44 = .ok (.iload_n 3, 1) := by decide +kernel
theorem dX3_faultPlace_45 : decode cX3_faultPlace 45 = .ok (.ifCond .ne 14, 3) := by decide +kernel
theorem dX3_faultPlace_48 : decode cX3_faultPlace 48 = .ok (.aload_n 0, 1) := by decide +kernel
theorem dX3_faultPlace_49 : decode cX3_faultPlace 49 = .ok (.getfield 9, 3) := by decide +kernel
theorem dX3_faultPlace_52 : decode cX3_faultPlace 52 = .ok (.iload_n 2, 1) := by decide +kernel
theorem dX3_faultPlace_53 : decode cX3_faultPlace 53 = .ok (.iaload, 1) := by decide +kernel
theorem dX3_faultPlace_54 : decode cX3_faultPlace 54 = .ok (.bipush 46, 2) := by decide +kernel
theorem dX3_faultPlace_56 : decode cX3_faultPlace 56 = .ok (.if_icmp .ne 7, 3) := by decide +kernel
theorem dX3_faultPlace_59 : decode cX3_faultPlace 59 = .ok (.iconst 1, 1) := by decide +kernel
theorem dX3_faultPlace_60 : decode cX3_faultPlace 60 = .ok (.goto 4, 3) := by decide +kernel
theorem dX3_faultPlace_63 : decode cX3_faultPlace 63 = .ok (.iconst 0, 1) := by decide +kernel
theorem dX3_faultPlace_64 : decode cX3_faultPlace 64 = .ok (.istore 4, 2) := by decide +kernel
theorem dX3_faultPlace_66 : decode cX3_faultPlace 66 = .ok (.iload 4, 2) := by decide +kernel
theorem dX3_faultPlace_68 : decode cX3_faultPlace 68 = .ok (.ifCond .ne 5, 3) := by decide +kernel
theorem dX3_faultPlace_71 : decode cX3_faultPlace 71 = .ok (.iload_n 2, 1) := by decide +kernel
theorem dX3_faultPlace_72 : decode cX3_faultPlace 72 = .ok (.ireturn, 1) := by decide +kernel
theorem dX3_faultPlace_73 : decode cX3_faultPlace 73 = .ok (.iload_n 3, 1) := by decide +kernel
theorem dX3_faultPlace_74 : decode cX3_faultPlace 74 = .ok (.istore_n 1, 1) := by decide +kernel
theorem dX3_faultPlace_75 : decode cX3_faultPlace 75 = .ok (.iinc 2 1, 3) := by decide +kernel
theorem dX3_faultPlace_78 : decode cX3_faultPlace 78 = .ok (.goto (-74), 3) := by decide +kernel
theorem dX3_faultPlace_81 : decode cX3_faultPlace 81 = .ok (.iload_n 1, 1) := by decide +kernel
theorem dX3_faultPlace_82 : decode cX3_faultPlace 82 = .ok (.ifCond .eq 10, 3) := by decide +kernel
theorem dX3_faultPlace_85 : decode cX3_faultPlace 85 = .ok (.aload_n 0, 1) := by decide +kernel
theorem dX3_faultPlace_86 : decode cX3_faultPlace 86 = .ok (.getfield 15, 3) := by decide +kernel
theorem dX3_faultPlace_89 : decode cX3_faultPlace 89 = .ok (.goto 5, 3) := by decide +kernel
theorem dX3_faultPlace_92 : decode cX3_faultPlace 92 = .ok (.bipush (-6), 2) := by decide +kernel
theorem dX3_faultPlace_94 : decode cX3_faultPlace 94 = .ok (.ireturn, 1) := by decide +kernel
theorem dX3_isHeapLetter_0 : decode cX3_isHeapLetter 0 = .ok (.iload_n 0, 1) := by decide +kernel
theorem dX3_isHeapLetter_1 : decode cX3_isHeapLetter 1 = .ok (.i2l, 1) := by decide +kernel
theorem dX3_isHeapLetter_2 : decode cX3_isHeapLetter 2 = .ok (.ldc2_w 26, 3) := by decide +kernel
theorem dX3_isHeapLetter_5 : decode cX3_isHeapLetter 5 = .ok (.ldc2_w 28, 3) := by decide +kernel
theorem dX3_isHeapLetter_8 : decode cX3_isHeapLetter 8 = .ok (.invokestatic 30, 3) := by decide +kernel
theorem dX3_isHeapLetter_11 : decode cX3_isHeapLetter 11 = .ok (.ireturn, 1) := by decide +kernel
theorem dX3_isCellLetter_0 : decode cX3_isCellLetter 0 = .ok (.iload_n 0, 1) := by decide +kernel
theorem dX3_isCellLetter_1 : decode cX3_isCellLetter 1 = .ok (.i2l, 1) := by decide +kernel
theorem dX3_isCellLetter_2 : decode cX3_isCellLetter 2 = .ok (.ldc2_w 34, 3) := by decide +kernel
theorem dX3_isCellLetter_5 : decode cX3_isCellLetter 5 = .ok (.ldc2_w 36, 3) := by decide +kernel
theorem dX3_isCellLetter_8 : decode cX3_isCellLetter 8 = .ok (.invokestatic 30, 3) := by decide +kernel
theorem dX3_isCellLetter_11 : decode cX3_isCellLetter 11 = .ok (.ireturn, 1) := by decide +kernel
theorem dX3_isDeed_0 : decode cX3_isDeed 0 = .ok (.iload_n 0, 1) := by decide +kernel
theorem dX3_isDeed_1 : decode cX3_isDeed 1 = .ok (.invokestatic 38, 3) := by decide +kernel
theorem dX3_isDeed_4 : decode cX3_isDeed 4 = .ok (.ifCond .ne 27, 3) := by decide +kernel
theorem dX3_isDeed_7 : decode cX3_isDeed 7 = .ok (.iload_n 0, 1) := by decide +kernel
theorem dX3_isDeed_8 : decode cX3_isDeed 8 = .ok (.bipush 43, 2) := by decide +kernel
theorem dX3_isDeed_10 : decode cX3_isDeed 10 = .ok (.if_icmp .eq 21, 3) := by decide +kernel
theorem dX3_isDeed_13 : decode cX3_isDeed 13 = .ok (.iload_n 0, 1) := by decide +kernel
theorem dX3_isDeed_14 : decode cX3_isDeed 14 = .ok (.bipush 45, 2) := by decide +kernel
theorem dX3_isDeed_16 : decode cX3_isDeed 16 = .ok (.if_icmp .eq 15, 3) := by decide +kernel
theorem dX3_isDeed_19 : decode cX3_isDeed 19 = .ok (.iload_n 0, 1) := by decide +kernel
theorem dX3_isDeed_20 : decode cX3_isDeed 20 = .ok (.bipush 42, 2) := by decide +kernel
theorem dX3_isDeed_22 : decode cX3_isDeed 22 = .ok (.if_icmp .eq 9, 3) := by decide +kernel
theorem dX3_isDeed_25 : decode cX3_isDeed 25 = .ok (.iload_n 0, 1) := by decide +kernel
theorem dX3_isDeed_26 : decode cX3_isDeed 26 = .ok (.bipush 94, 2) := by decide +kernel
theorem dX3_isDeed_28 : decode cX3_isDeed 28 = .ok (.if_icmp .ne 7, 3) := by decide +kernel
theorem dX3_isDeed_31 : decode cX3_isDeed 31 = .ok (.iconst 1, 1) := by decide +kernel
theorem dX3_isDeed_32 : decode cX3_isDeed 32 = .ok (.goto 4, 3) := by decide +kernel
theorem dX3_isDeed_35 : decode cX3_isDeed 35 = .ok (.iconst 0, 1) := by decide +kernel
theorem dX3_isDeed_36 : decode cX3_isDeed 36 = .ok (.ireturn, 1) := by decide +kernel
theorem dX3_kindOf_0 : decode cX3_kindOf 0 = .ok (.iload_n 0, 1) := by decide +kernel
theorem dX3_kindOf_1 : decode cX3_kindOf 1 = .ok (.lookupswitch 61 #[(42, 55), (43, 51), (45, 53), (46, 59), (94, 57)], 51) := by decide +kernel
theorem dX3_kindOf_52 : decode cX3_kindOf 52 = .ok (.iconst 1, 1) := by decide +kernel
theorem dX3_kindOf_53 : decode cX3_kindOf 53 = .ok (.ireturn, 1) := by decide +kernel
theorem dX3_kindOf_54 : decode cX3_kindOf 54 = .ok (.iconst 2, 1) := by decide +kernel
theorem dX3_kindOf_55 : decode cX3_kindOf 55 = .ok (.ireturn, 1) := by decide +kernel
theorem dX3_kindOf_56 : decode cX3_kindOf 56 = .ok (.iconst 3, 1) := by decide +kernel
theorem dX3_kindOf_57 : decode cX3_kindOf 57 = .ok (.ireturn, 1) := by decide +kernel
theorem dX3_kindOf_58 : decode cX3_kindOf 58 = .ok (.iconst 4, 1) := by decide +kernel
theorem dX3_kindOf_59 : decode cX3_kindOf 59 = .ok (.ireturn, 1) := by decide +kernel
theorem dX3_kindOf_60 : decode cX3_kindOf 60 = .ok (.iconst 5, 1) := by decide +kernel
theorem dX3_kindOf_61 : decode cX3_kindOf 61 = .ok (.ireturn, 1) := by decide +kernel
theorem dX3_kindOf_62 : decode cX3_kindOf 62 = .ok (.iconst 0, 1) := by decide +kernel
theorem dX3_kindOf_63 : decode cX3_kindOf 63 = .ok (.ireturn, 1) := by decide +kernel
theorem dX4_init_0 : decode cX4_init 0 = .ok (.aload_n 0, 1) := by decide +kernel
theorem dX4_init_1 : decode cX4_init 1 = .ok (.invokespecial 3, 3) := by decide +kernel
theorem dX4_init_4 : decode cX4_init 4 = .ok (.aload_n 0, 1) := by decide +kernel
theorem dX4_init_5 : decode cX4_init 5 = .ok (.bipush 8, 2) := by decide +kernel
theorem dX4_init_7 : decode cX4_init 7 = .ok (.newarray .int, 2) := by decide +kernel
theorem dX4_init_9 : decode cX4_init 9 = .ok (.putfield 9, 3) := by decide +kernel
theorem dX4_init_12 : decode cX4_init 12 = .ok (.aload_n 0, 1) := by decide +kernel
theorem dX4_init_13 : decode cX4_init 13 = .ok (.bipush 8, 2) := by decide +kernel
theorem dX4_init_15 : decode cX4_init 15 = .ok (.newarray .int, 2) := by decide +kernel
theorem dX4_init_17 : decode cX4_init 17 = .ok (.putfield 15, 3) := by decide +kernel
theorem dX4_init_20 : decode cX4_init 20 = .ok (.return_, 1) := by decide +kernel
theorem dX4_copyFrom_0 : decode cX4_copyFrom 0 = .ok (.iconst 0, 1) := by decide +kernel
theorem dX4_copyFrom_1 : decode cX4_copyFrom 1 = .ok (.istore_n 2, 1) := by decide +kernel
theorem dX4_copyFrom_2 : decode cX4_copyFrom 2 = .ok (.iload_n 2, 1) := by decide +kernel
theorem dX4_copyFrom_3 : decode cX4_copyFrom 3 = .ok (.bipush 8, 2) := by decide +kernel
theorem dX4_copyFrom_5 : decode cX4_copyFrom 5 = .ok (.if_icmp .ge 33, 3) := by decide +kernel
theorem dX4_copyFrom_8 : decode cX4_copyFrom 8 = .ok (.aload_n 0, 1) := by decide +kernel
theorem dX4_copyFrom_9 : decode cX4_copyFrom 9 = .ok (.getfield 9, 3) := by decide +kernel
theorem dX4_copyFrom_12 : decode cX4_copyFrom 12 = .ok (.iload_n 2, 1) := by decide +kernel
theorem dX4_copyFrom_13 : decode cX4_copyFrom 13 = .ok (.aload_n 1, 1) := by decide +kernel
theorem dX4_copyFrom_14 : decode cX4_copyFrom 14 = .ok (.getfield 9, 3) := by decide +kernel
theorem dX4_copyFrom_17 : decode cX4_copyFrom 17 = .ok (.iload_n 2, 1) := by decide +kernel
theorem dX4_copyFrom_18 : decode cX4_copyFrom 18 = .ok (.iaload, 1) := by decide +kernel
theorem dX4_copyFrom_19 : decode cX4_copyFrom 19 = .ok (.iastore, 1) := by decide +kernel
theorem dX4_copyFrom_20 : decode cX4_copyFrom 20 = .ok (.aload_n 0, 1) := by decide +kernel
theorem dX4_copyFrom_21 : decode cX4_copyFrom 21 = .ok (.getfield 15, 3) := by decide +kernel
theorem dX4_copyFrom_24 : decode cX4_copyFrom 24 = .ok (.iload_n 2, 1) := by decide +kernel
theorem dX4_copyFrom_25 : decode cX4_copyFrom 25 = .ok (.aload_n 1, 1) := by decide +kernel
theorem dX4_copyFrom_26 : decode cX4_copyFrom 26 = .ok (.getfield 15, 3) := by decide +kernel
theorem dX4_copyFrom_29 : decode cX4_copyFrom 29 = .ok (.iload_n 2, 1) := by decide +kernel
theorem dX4_copyFrom_30 : decode cX4_copyFrom 30 = .ok (.iaload, 1) := by decide +kernel
theorem dX4_copyFrom_31 : decode cX4_copyFrom 31 = .ok (.iastore, 1) := by decide +kernel
theorem dX4_copyFrom_32 : decode cX4_copyFrom 32 = .ok (.iinc 2 1, 3) := by decide +kernel
theorem dX4_copyFrom_35 : decode cX4_copyFrom 35 = .ok (.goto (-33), 3) := by decide +kernel
theorem dX4_copyFrom_38 : decode cX4_copyFrom 38 = .ok (.aload_n 0, 1) := by decide +kernel
theorem dX4_copyFrom_39 : decode cX4_copyFrom 39 = .ok (.aload_n 1, 1) := by decide +kernel
theorem dX4_copyFrom_40 : decode cX4_copyFrom 40 = .ok (.getfield 18, 3) := by decide +kernel
theorem dX4_copyFrom_43 : decode cX4_copyFrom 43 = .ok (.putfield 18, 3) := by decide +kernel
theorem dX4_copyFrom_46 : decode cX4_copyFrom 46 = .ok (.return_, 1) := by decide +kernel
theorem dX4_append_0 : decode cX4_append 0 = .ok (.aload_n 0, 1) := by decide +kernel
theorem dX4_append_1 : decode cX4_append 1 = .ok (.getfield 18, 3) := by decide +kernel
theorem dX4_append_4 : decode cX4_append 4 = .ok (.ifCond .lt 12, 3) := by decide +kernel
theorem dX4_append_7 : decode cX4_append 7 = .ok (.aload_n 0, 1) := by decide +kernel
theorem dX4_append_8 : decode cX4_append 8 = .ok (.getfield 18, 3) := by decide +kernel
theorem dX4_append_11 : decode cX4_append 11 = .ok (.bipush 8, 2) := by decide +kernel
theorem dX4_append_13 : decode cX4_append 13 = .ok (.if_icmp .lt 5, 3) := by decide +kernel
theorem dX4_append_16 : decode cX4_append 16 = .ok (.iconst 0, 1) := by decide +kernel
theorem dX4_append_17 : decode cX4_append 17 = .ok (.ireturn, 1) := by decide +kernel
theorem dX4_append_18 : decode cX4_append 18 = .ok (.aload_n 0, 1) := by decide +kernel
theorem dX4_append_19 : decode cX4_append 19 = .ok (.getfield 9, 3) := by decide +kernel
theorem dX4_append_22 : decode cX4_append 22 = .ok (.aload_n 0, 1) := by decide +kernel
theorem dX4_append_23 : decode cX4_append 23 = .ok (.getfield 18, 3) := by decide +kernel
theorem dX4_append_26 : decode cX4_append 26 = .ok (.iload_n 1, 1) := by decide +kernel
theorem dX4_append_27 : decode cX4_append 27 = .ok (.iastore, 1) := by decide +kernel
theorem dX4_append_28 : decode cX4_append 28 = .ok (.aload_n 0, 1) := by decide +kernel
theorem dX4_append_29 : decode cX4_append 29 = .ok (.getfield 15, 3) := by decide +kernel
theorem dX4_append_32 : decode cX4_append 32 = .ok (.aload_n 0, 1) := by decide +kernel
theorem dX4_append_33 : decode cX4_append 33 = .ok (.getfield 18, 3) := by decide +kernel
theorem dX4_append_36 : decode cX4_append 36 = .ok (.iload_n 2, 1) := by decide +kernel
theorem dX4_append_37 : decode cX4_append 37 = .ok (.iastore, 1) := by decide +kernel
theorem dX4_append_38 : decode cX4_append 38 = .ok (.aload_n 0, 1) := by decide +kernel
theorem dX4_append_39 : decode cX4_append 39 = .ok (.dup, 1) := by decide +kernel
theorem dX4_append_40 : decode cX4_append 40 = .ok (.getfield 18, 3) := by decide +kernel
theorem dX4_append_43 : decode cX4_append 43 = .ok (.iconst 1, 1) := by decide +kernel
theorem dX4_append_44 : decode cX4_append 44 = .ok (.iadd, 1) := by decide +kernel
theorem dX4_append_45 : decode cX4_append 45 = .ok (.putfield 18, 3) := by decide +kernel
theorem dX4_append_48 : decode cX4_append 48 = .ok (.iconst 1, 1) := by decide +kernel
theorem dX4_append_49 : decode cX4_append 49 = .ok (.ireturn, 1) := by decide +kernel
theorem dX4_fit_0 : decode cX4_fit 0 = .ok (.iconst 0, 1) := by decide +kernel
theorem dX4_fit_1 : decode cX4_fit 1 = .ok (.istore_n 3, 1) := by decide +kernel
theorem dX4_fit_2 : decode cX4_fit 2 = .ok (.iload_n 3, 1) := by decide +kernel
theorem dX4_fit_3 : decode cX4_fit 3 = .ok (.aload_n 0, 1) := by decide +kernel
theorem dX4_fit_4 : decode cX4_fit 4 = .ok (.getfield 18, 3) := by decide +kernel
theorem dX4_fit_7 : decode cX4_fit 7 = .ok (.if_icmp .ge 37, 3) := by decide +kernel
theorem dX4_fit_10 : decode cX4_fit 10 = .ok (.iload_n 3, 1) := by decide +kernel
theorem dX4_fit_11 : decode cX4_fit 11 = .ok (.bipush 8, 2) := by decide +kernel
theorem dX4_fit_13 : decode cX4_fit 13 = .ok (.if_icmp .ge 31, 3) := by decide +kernel
theorem dX4_fit_16 : decode cX4_fit 16 = .ok (.iload_n 1, 1) := by decide +kernel
theorem dX4_fit_17 : decode cX4_fit 17 = .ok (.iload_n 2, 1) := by decide +kernel
theorem dX4_fit_18 : decode cX4_fit 18 = .ok (.aload_n 0, 1) := by decide +kernel
theorem dX4_fit_19 : decode cX4_fit 19 = .ok (.getfield 9, 3) := by decide +kernel
theorem dX4_fit_22 : decode cX4_fit 22 = .ok (.iload_n 3, 1) := by decide +kernel
theorem dX4_fit_23 : decode cX4_fit 23 = .ok (.iaload, 1) := by decide +kernel
theorem dX4_fit_24 : decode cX4_fit 24 = .ok (.invokestatic 22, 3) := by decide +kernel
theorem dX4_fit_27 : decode cX4_fit 27 = .ok (.aload_n 0, 1) := by decide +kernel
theorem dX4_fit_28 : decode cX4_fit 28 = .ok (.getfield 15, 3) := by decide +kernel
theorem dX4_fit_31 : decode cX4_fit 31 = .ok (.iload_n 3, 1) := by decide +kernel
theorem dX4_fit_32 : decode cX4_fit 32 = .ok (.iaload, 1) := by decide +kernel
theorem dX4_fit_33 : decode cX4_fit 33 = .ok (.if_icmp .eq 5, 3) := by decide +kernel
theorem dX4_fit_36 : decode cX4_fit 36 = .ok (.iconst 0, 1) := by decide +kernel
theorem dX4_fit_37 : decode cX4_fit 37 = .ok (.ireturn, 1) := by decide +kernel
theorem dX4_fit_38 : decode cX4_fit 38 = .ok (.iinc 3 1, 3) := by decide +kernel
theorem dX4_fit_41 : decode cX4_fit 41 = .ok (.goto (-39), 3) := by decide +kernel
theorem dX4_fit_44 : decode cX4_fit 44 = .ok (.iconst 1, 1) := by decide +kernel
theorem dX4_fit_45 : decode cX4_fit 45 = .ok (.ireturn, 1) := by decide +kernel
theorem dX4_listFitting_0 : decode cX4_listFitting 0 = .ok (.iconst 0, 1) := by decide +kernel
theorem dX4_listFitting_1 : decode cX4_listFitting 1 = .ok (.istore_n 2, 1) := by decide +kernel
theorem dX4_listFitting_2 : decode cX4_listFitting 2 = .ok (.iconst 0, 1) := by decide +kernel
theorem dX4_listFitting_3 : decode cX4_listFitting 3 = .ok (.istore_n 3, 1) := by decide +kernel
theorem dX4_listFitting_4 : decode cX4_listFitting 4 = .ok (.iload_n 3, 1) := by decide +kernel
theorem dX4_listFitting_5 : decode cX4_listFitting 5 = .ok (.bipush 7, 2) := by decide +kernel
theorem dX4_listFitting_7 : decode cX4_listFitting 7 = .ok (.if_icmp .ge 54, 3) := by decide +kernel
theorem dX4_listFitting_10 : decode cX4_listFitting 10 = .ok (.iconst 0, 1) := by decide +kernel
theorem dX4_listFitting_11 : decode cX4_listFitting 11 = .ok (.istore 4, 2) := by decide +kernel
theorem dX4_listFitting_13 : decode cX4_listFitting 13 = .ok (.iload 4, 2) := by decide +kernel
theorem dX4_listFitting_15 : decode cX4_listFitting 15 = .ok (.bipush 7, 2) := by decide +kernel
theorem dX4_listFitting_17 : decode cX4_listFitting 17 = .ok (.if_icmp .ge 38, 3) := by decide +kernel
theorem dX4_listFitting_20 : decode cX4_listFitting 20 = .ok (.iload_n 2, 1) := by decide +kernel
theorem dX4_listFitting_21 : decode cX4_listFitting 21 = .ok (.aload_n 1, 1) := by decide +kernel
theorem dX4_listFitting_22 : decode cX4_listFitting 22 = .ok (.arraylength, 1) := by decide +kernel
theorem dX4_listFitting_23 : decode cX4_listFitting 23 = .ok (.if_icmp .ge 26, 3) := by decide +kernel
theorem dX4_listFitting_26 : decode cX4_listFitting 26 = .ok (.aload_n 0, 1) := by decide +kernel
theorem dX4_listFitting_27 : decode cX4_listFitting 27 = .ok (.iload_n 3, 1) := by decide +kernel
theorem dX4_listFitting_28 : decode cX4_listFitting 28 = .ok (.iload 4, 2) := by decide +kernel
theorem dX4_listFitting_30 : decode cX4_listFitting 30 = .ok (.invokevirtual 26, 3) := by decide +kernel
theorem dX4_listFitting_33 : decode cX4_listFitting 33 = .ok (.ifCond .eq 16, 3) := by decide +kernel
theorem dX4_listFitting_36 : decode cX4_listFitting 36 = .ok (.aload_n 1, 1) := by decide +kernel
theorem dX4_listFitting_37 : decode cX4_listFitting 37 = .ok (.iload_n 2, 1) := by decide +kernel
theorem dX4_listFitting_38 : decode cX4_listFitting 38 = .ok (.bipush 10, 2) := by decide +kernel
theorem dX4_listFitting_40 : decode cX4_listFitting 40 = .ok (.iload_n 3, 1) := by decide +kernel
theorem dX4_listFitting_41 : decode cX4_listFitting 41 = .ok (.imul, 1) := by decide +kernel
theorem dX4_listFitting_42 : decode cX4_listFitting 42 = .ok (.iload 4, 2) := by decide +kernel
theorem dX4_listFitting_44 : decode cX4_listFitting 44 = .ok (.iadd, 1) := by decide +kernel
theorem dX4_listFitting_45 : decode cX4_listFitting 45 = .ok (.iastore, 1) := by decide +kernel
theorem dX4_listFitting_46 : decode cX4_listFitting 46 = .ok (.iinc 2 1, 3) := by decide +kernel
theorem dX4_listFitting_49 : decode cX4_listFitting 49 = .ok (.iinc 4 1, 3) := by decide +kernel
theorem dX4_listFitting_52 : decode cX4_listFitting 52 = .ok (.goto (-39), 3) := by decide +kernel
theorem dX4_listFitting_55 : decode cX4_listFitting 55 = .ok (.iinc 3 1, 3) := by decide +kernel
theorem dX4_listFitting_58 : decode cX4_listFitting 58 = .ok (.goto (-54), 3) := by decide +kernel
theorem dX4_listFitting_61 : decode cX4_listFitting 61 = .ok (.iload_n 2, 1) := by decide +kernel
theorem dX4_listFitting_62 : decode cX4_listFitting 62 = .ok (.ireturn, 1) := by decide +kernel
theorem dX5_init_0 : decode cX5_init 0 = .ok (.aload_n 0, 1) := by decide +kernel
theorem dX5_init_1 : decode cX5_init 1 = .ok (.invokespecial 3, 3) := by decide +kernel
theorem dX5_init_4 : decode cX5_init 4 = .ok (.aload_n 0, 1) := by decide +kernel
theorem dX5_init_5 : decode cX5_init 5 = .ok (.new 9, 3) := by decide +kernel
theorem dX5_init_8 : decode cX5_init 8 = .ok (.dup, 1) := by decide +kernel
theorem dX5_init_9 : decode cX5_init 9 = .ok (.invokespecial 11, 3) := by decide +kernel
theorem dX5_init_12 : decode cX5_init 12 = .ok (.putfield 12, 3) := by decide +kernel
theorem dX5_init_15 : decode cX5_init 15 = .ok (.return_, 1) := by decide +kernel
theorem dX5_tryOut_0 : decode cX5_tryOut 0 = .ok (.aload_n 0, 1) := by decide +kernel
theorem dX5_tryOut_1 : decode cX5_tryOut 1 = .ok (.aload_n 2, 1) := by decide +kernel
theorem dX5_tryOut_2 : decode cX5_tryOut 2 = .ok (.invokevirtual 18, 3) := by decide +kernel
theorem dX5_tryOut_5 : decode cX5_tryOut 5 = .ok (.aload_n 1, 1) := by decide +kernel
theorem dX5_tryOut_6 : decode cX5_tryOut 6 = .ok (.invokevirtual 22, 3) := by decide +kernel
theorem dX5_tryOut_9 : decode cX5_tryOut 9 = .ok (.bipush (-6), 2) := by decide +kernel
theorem dX5_tryOut_11 : decode cX5_tryOut 11 = .ok (.if_icmp .eq 5, 3) := by decide +kernel
theorem dX5_tryOut_14 : decode cX5_tryOut 14 = .ok (.iconst 0, 1) := by decide +kernel
theorem dX5_tryOut_15 : decode cX5_tryOut 15 = .ok (.ireturn, 1) := by decide +kernel
theorem dX5_tryOut_16 : decode cX5_tryOut 16 = .ok (.iconst 0, 1) := by decide +kernel
theorem dX5_tryOut_17 : decode cX5_tryOut 17 = .ok (.istore_n 3, 1) := by decide +kernel
theorem dX5_tryOut_18 : decode cX5_tryOut 18 = .ok (.iconst 0, 1) := by decide +kernel
theorem dX5_tryOut_19 : decode cX5_tryOut 19 = .ok (.istore 4, 2) := by decide +kernel
theorem dX5_tryOut_21 : decode cX5_tryOut 21 = .ok (.iload 4, 2) := by decide +kernel
theorem dX5_tryOut_23 : decode cX5_tryOut 23 = .ok (.aload_n 1, 1) := by decide +kernel
theorem dX5_tryOut_24 : decode cX5_tryOut 24 = .ok (.getfield 28, 3) := by decide +kernel
theorem dX5_tryOut_27 : decode cX5_tryOut 27 = .ok (.if_icmp .ge 117, 3) := by decide +kernel
theorem dX5_tryOut_30 : decode cX5_tryOut 30 = .ok (.iload 4, 2) := by decide +kernel
theorem dX5_tryOut_32 : decode cX5_tryOut 32 = .ok (.bipush 60, 2) := by decide +kernel
theorem dX5_tryOut_34 : decode cX5_tryOut 34 = .ok (.if_icmp .ge 110, 3) := by decide +kernel
theorem dX5_tryOut_37 : decode cX5_tryOut 37 = .ok (.aload_n 1, 1) := by decide +kernel
theorem dX5_tryOut_38 : decode cX5_tryOut 38 = .ok (.getfield 32, 3) := by decide +kernel
theorem dX5_tryOut_41 : decode cX5_tryOut 41 = .ok (.iload 4, 2) := by decide +kernel
theorem dX5_tryOut_43 : decode cX5_tryOut 43 = .ok (.iaload, 1) := by decide +kernel
theorem dX5_tryOut_44 : decode cX5_tryOut 44 = .ok (.istore 5, 2) := by decide +kernel
theorem dX5_tryOut_46 : decode cX5_tryOut 46 = .ok (.iload 5, 2) := by decide +kernel
theorem dX5_tryOut_48 : decode cX5_tryOut 48 = .ok (.invokestatic 36, 3) := by decide +kernel
theorem dX5_tryOut_51 : decode cX5_tryOut 51 = .ok (.ifCond .eq 12, 3) := by decide +kernel
theorem dX5_tryOut_54 : decode cX5_tryOut 54 = .ok (.iload 5, 2) := by decide +kernel
theorem dX5_tryOut_56 : decode cX5_tryOut 56 = .ok (.bipush 65, 2) := by decide +kernel
theorem dX5_tryOut_58 : decode cX5_tryOut 58 = .ok (.isub, 1) := by decide +kernel
theorem dX5_tryOut_59 : decode cX5_tryOut 59 = .ok (.istore_n 3, 1) := by decide +kernel
theorem dX5_tryOut_60 : decode cX5_tryOut 60 = .ok (.goto 78, 3) := by decide +kernel
theorem dX5_tryOut_63 : decode cX5_tryOut 63 = .ok (.iload 5, 2) := by decide +kernel
theorem dX5_tryOut_65 : decode cX5_tryOut 65 = .ok (.invokestatic 40, 3) := by decide +kernel
theorem dX5_tryOut_68 : decode cX5_tryOut 68 = .ok (.istore 6, 2) := by decide +kernel
theorem dX5_tryOut_70 : decode cX5_tryOut 70 = .ok (.iload 5, 2) := by decide +kernel
theorem dX5_tryOut_72 : decode cX5_tryOut 72 = .ok (.bipush 97, 2) := by decide +kernel
theorem dX5_tryOut_74 : decode cX5_tryOut 74 = .ok (.isub, 1) := by decide +kernel
theorem dX5_tryOut_75 : decode cX5_tryOut 75 = .ok (.istore 7, 2) := by decide +kernel
theorem dX5_tryOut_77 : decode cX5_tryOut 77 = .ok (.aload_n 0, 1) := by decide +kernel
theorem dX5_tryOut_78 : decode cX5_tryOut 78 = .ok (.getfield 12, 3) := by decide +kernel
theorem dX5_tryOut_81 : decode cX5_tryOut 81 = .ok (.iload 6, 2) := by decide +kernel
theorem dX5_tryOut_83 : decode cX5_tryOut 83 = .ok (.iload_n 3, 1) := by decide +kernel
theorem dX5_tryOut_84 : decode cX5_tryOut 84 = .ok (.iload 7, 2) := by decide +kernel
theorem dX5_tryOut_86 : decode cX5_tryOut 86 = .ok (.invokevirtual 44, 3) := by decide +kernel
theorem dX5_tryOut_89 : decode cX5_tryOut 89 = .ok (.istore 8, 2) := by decide +kernel
theorem dX5_tryOut_91 : decode cX5_tryOut 91 = .ok (.iload 8, 2) := by decide +kernel
theorem dX5_tryOut_93 : decode cX5_tryOut 93 = .ok (.ifCond .eq 19, 3) := by decide +kernel
theorem dX5_tryOut_96 : decode cX5_tryOut 96 = .ok (.aload_n 0, 1) := by decide +kernel
theorem dX5_tryOut_97 : decode cX5_tryOut 97 = .ok (.aload_n 0, 1) := by decide +kernel
theorem dX5_tryOut_98 : decode cX5_tryOut 98 = .ok (.getfield 48, 3) := by decide +kernel
theorem dX5_tryOut_101 : decode cX5_tryOut 101 = .ok (.putfield 51, 3) := by decide +kernel
theorem dX5_tryOut_104 : decode cX5_tryOut 104 = .ok (.aload_n 0, 1) := by decide +kernel
theorem dX5_tryOut_105 : decode cX5_tryOut 105 = .ok (.iload 8, 2) := by decide +kernel
theorem dX5_tryOut_107 : decode cX5_tryOut 107 = .ok (.putfield 54, 3) := by decide +kernel
theorem dX5_tryOut_110 : decode cX5_tryOut 110 = .ok (.iconst 0, 1) := by decide +kernel
theorem dX5_tryOut_111 : decode cX5_tryOut 111 = .ok (.ireturn, 1) := by decide +kernel
theorem dX5_tryOut_112 : decode cX5_tryOut 112 = .ok (.aload_n 0, 1) := by decide +kernel
theorem dX5_tryOut_113 : decode cX5_tryOut 113 = .ok (.aload_n 0, 1) := by decide +kernel
theorem dX5_tryOut_114 : decode cX5_tryOut 114 = .ok (.getfield 12, 3) := by decide +kernel
theorem dX5_tryOut_117 : decode cX5_tryOut 117 = .ok (.iload 6, 2) := by decide +kernel
theorem dX5_tryOut_119 : decode cX5_tryOut 119 = .ok (.iload_n 3, 1) := by decide +kernel
theorem dX5_tryOut_120 : decode cX5_tryOut 120 = .ok (.iload 7, 2) := by decide +kernel
theorem dX5_tryOut_122 : decode cX5_tryOut 122 = .ok (.invokevirtual 57, 3) := by decide +kernel
theorem dX5_tryOut_125 : decode cX5_tryOut 125 = .ok (.invokevirtual 60, 3) := by decide +kernel
theorem dX5_tryOut_128 : decode cX5_tryOut 128 = .ok (.aload_n 0, 1) := by decide +kernel
theorem dX5_tryOut_129 : decode cX5_tryOut 129 = .ok (.dup, 1) := by decide +kernel
theorem dX5_tryOut_130 : decode cX5_tryOut 130 = .ok (.getfield 48, 3) := by decide +kernel
theorem dX5_tryOut_133 : decode cX5_tryOut 133 = .ok (.iconst 1, 1) := by decide +kernel
theorem dX5_tryOut_134 : decode cX5_tryOut 134 = .ok (.iadd, 1) := by decide +kernel
theorem dX5_tryOut_135 : decode cX5_tryOut 135 = .ok (.putfield 48, 3) := by decide +kernel
theorem dX5_tryOut_138 : decode cX5_tryOut 138 = .ok (.iinc 4 1, 3) := by decide +kernel
theorem dX5_tryOut_141 : decode cX5_tryOut 141 = .ok (.goto (-120), 3) := by decide +kernel
theorem dX5_tryOut_144 : decode cX5_tryOut 144 = .ok (.iconst 1, 1) := by decide +kernel
theorem dX5_tryOut_145 : decode cX5_tryOut 145 = .ok (.ireturn, 1) := by decide +kernel
theorem dX5_begin_0 : decode cX5_begin 0 = .ok (.aload_n 0, 1) := by decide +kernel
theorem dX5_begin_1 : decode cX5_begin 1 = .ok (.getfield 12, 3) := by decide +kernel
theorem dX5_begin_4 : decode cX5_begin 4 = .ok (.aload_n 1, 1) := by decide +kernel
theorem dX5_begin_5 : decode cX5_begin 5 = .ok (.invokevirtual 64, 3) := by decide +kernel
theorem dX5_begin_8 : decode cX5_begin 8 = .ok (.aload_n 0, 1) := by decide +kernel
theorem dX5_begin_9 : decode cX5_begin 9 = .ok (.iconst 0, 1) := by decide +kernel
theorem dX5_begin_10 : decode cX5_begin 10 = .ok (.putfield 48, 3) := by decide +kernel
theorem dX5_begin_13 : decode cX5_begin 13 = .ok (.aload_n 0, 1) := by decide +kernel
theorem dX5_begin_14 : decode cX5_begin 14 = .ok (.bipush (-6), 2) := by decide +kernel
theorem dX5_begin_16 : decode cX5_begin 16 = .ok (.putfield 51, 3) := by decide +kernel
theorem dX5_begin_19 : decode cX5_begin 19 = .ok (.aload_n 0, 1) := by decide +kernel
theorem dX5_begin_20 : decode cX5_begin 20 = .ok (.bipush (-6), 2) := by decide +kernel
theorem dX5_begin_22 : decode cX5_begin 22 = .ok (.putfield 54, 3) := by decide +kernel
theorem dX5_begin_25 : decode cX5_begin 25 = .ok (.aload_n 0, 1) := by decide +kernel
theorem dX5_begin_26 : decode cX5_begin 26 = .ok (.iconst 0, 1) := by decide +kernel
theorem dX5_begin_27 : decode cX5_begin 27 = .ok (.putfield 67, 3) := by decide +kernel
theorem dX5_begin_30 : decode cX5_begin 30 = .ok (.aload_n 0, 1) := by decide +kernel
theorem dX5_begin_31 : decode cX5_begin 31 = .ok (.bipush (-6), 2) := by decide +kernel
theorem dX5_begin_33 : decode cX5_begin 33 = .ok (.putfield 70, 3) := by decide +kernel
theorem dX5_begin_36 : decode cX5_begin 36 = .ok (.aload_n 0, 1) := by decide +kernel
theorem dX5_begin_37 : decode cX5_begin 37 = .ok (.bipush (-6), 2) := by decide +kernel
theorem dX5_begin_39 : decode cX5_begin 39 = .ok (.putfield 73, 3) := by decide +kernel
theorem dX5_begin_42 : decode cX5_begin 42 = .ok (.return_, 1) := by decide +kernel
theorem dX5_noteFlares_0 : decode cX5_noteFlares 0 = .ok (.aload_n 0, 1) := by decide +kernel
theorem dX5_noteFlares_1 : decode cX5_noteFlares 1 = .ok (.dup, 1) := by decide +kernel
theorem dX5_noteFlares_2 : decode cX5_noteFlares 2 = .ok (.getfield 67, 3) := by decide +kernel
theorem dX5_noteFlares_5 : decode cX5_noteFlares 5 = .ok (.iload_n 1, 1) := by decide +kernel
theorem dX5_noteFlares_6 : decode cX5_noteFlares 6 = .ok (.invokestatic 76, 3) := by decide +kernel
theorem dX5_noteFlares_9 : decode cX5_noteFlares 9 = .ok (.iadd, 1) := by decide +kernel
theorem dX5_noteFlares_10 : decode cX5_noteFlares 10 = .ok (.putfield 67, 3) := by decide +kernel
theorem dX5_noteFlares_13 : decode cX5_noteFlares 13 = .ok (.iconst 0, 1) := by decide +kernel
theorem dX5_noteFlares_14 : decode cX5_noteFlares 14 = .ok (.istore_n 2, 1) := by decide +kernel
theorem dX5_noteFlares_15 : decode cX5_noteFlares 15 = .ok (.iload_n 2, 1) := by decide +kernel
theorem dX5_noteFlares_16 : decode cX5_noteFlares 16 = .ok (.bipush 6, 2) := by decide +kernel
theorem dX5_noteFlares_18 : decode cX5_noteFlares 18 = .ok (.if_icmp .ge 39, 3) := by decide +kernel
theorem dX5_noteFlares_21 : decode cX5_noteFlares 21 = .ok (.aload_n 0, 1) := by decide +kernel
theorem dX5_noteFlares_22 : decode cX5_noteFlares 22 = .ok (.getfield 70, 3) := by decide +kernel
theorem dX5_noteFlares_25 : decode cX5_noteFlares 25 = .ok (.bipush (-6), 2) := by decide +kernel
theorem dX5_noteFlares_27 : decode cX5_noteFlares 27 = .ok (.if_icmp .ne 30, 3) := by decide +kernel
theorem dX5_noteFlares_30 : decode cX5_noteFlares 30 = .ok (.iload_n 1, 1) := by decide +kernel
theorem dX5_noteFlares_31 : decode cX5_noteFlares 31 = .ok (.iload_n 2, 1) := by decide +kernel
theorem dX5_noteFlares_32 : decode cX5_noteFlares 32 = .ok (.invokestatic 81, 3) := by decide +kernel
theorem dX5_noteFlares_35 : decode cX5_noteFlares 35 = .ok (.ifCond .eq 16, 3) := by decide +kernel
theorem dX5_noteFlares_38 : decode cX5_noteFlares 38 = .ok (.aload_n 0, 1) := by decide +kernel
theorem dX5_noteFlares_39 : decode cX5_noteFlares 39 = .ok (.aload_n 0, 1) := by decide +kernel
theorem dX5_noteFlares_40 : decode cX5_noteFlares 40 = .ok (.getfield 48, 3) := by decide +kernel
theorem dX5_noteFlares_43 : decode cX5_noteFlares 43 = .ok (.putfield 70, 3) := by decide +kernel
theorem dX5_noteFlares_46 : decode cX5_noteFlares 46 = .ok (.aload_n 0, 1) := by decide +kernel
theorem dX5_noteFlares_47 : decode cX5_noteFlares 47 = .ok (.iload_n 2, 1) := by decide +kernel
theorem dX5_noteFlares_48 : decode cX5_noteFlares 48 = .ok (.putfield 73, 3) := by decide +kernel
theorem dX5_noteFlares_51 : decode cX5_noteFlares 51 = .ok (.iinc 2 1, 3) := by decide +kernel
theorem dX5_noteFlares_54 : decode cX5_noteFlares 54 = .ok (.goto (-39), 3) := by decide +kernel
theorem dX5_noteFlares_57 : decode cX5_noteFlares 57 = .ok (.return_, 1) := by decide +kernel
theorem dX6_init_0 : decode cX6_init 0 = .ok (.aload_n 0, 1) := by decide +kernel
theorem dX6_init_1 : decode cX6_init 1 = .ok (.invokespecial 3, 3) := by decide +kernel
theorem dX6_init_4 : decode cX6_init 4 = .ok (.aload_n 0, 1) := by decide +kernel
theorem dX6_init_5 : decode cX6_init 5 = .ok (.new 9, 3) := by decide +kernel
theorem dX6_init_8 : decode cX6_init 8 = .ok (.dup, 1) := by decide +kernel
theorem dX6_init_9 : decode cX6_init 9 = .ok (.invokespecial 11, 3) := by decide +kernel
theorem dX6_init_12 : decode cX6_init 12 = .ok (.putfield 12, 3) := by decide +kernel
theorem dX6_init_15 : decode cX6_init 15 = .ok (.aload_n 0, 1) := by decide +kernel
theorem dX6_init_16 : decode cX6_init 16 = .ok (.new 16, 3) := by decide +kernel
theorem dX6_init_19 : decode cX6_init 19 = .ok (.dup, 1) := by decide +kernel
theorem dX6_init_20 : decode cX6_init 20 = .ok (.invokespecial 18, 3) := by decide +kernel
theorem dX6_init_23 : decode cX6_init 23 = .ok (.putfield 19, 3) := by decide +kernel
theorem dX6_init_26 : decode cX6_init 26 = .ok (.aload_n 0, 1) := by decide +kernel
theorem dX6_init_27 : decode cX6_init 27 = .ok (.new 23, 3) := by decide +kernel
theorem dX6_init_30 : decode cX6_init 30 = .ok (.dup, 1) := by decide +kernel
theorem dX6_init_31 : decode cX6_init 31 = .ok (.invokespecial 25, 3) := by decide +kernel
theorem dX6_init_34 : decode cX6_init 34 = .ok (.putfield 26, 3) := by decide +kernel
theorem dX6_init_37 : decode cX6_init 37 = .ok (.aload_n 0, 1) := by decide +kernel
theorem dX6_init_38 : decode cX6_init 38 = .ok (.new 30, 3) := by decide +kernel
theorem dX6_init_41 : decode cX6_init 41 = .ok (.dup, 1) := by decide +kernel
theorem dX6_init_42 : decode cX6_init 42 = .ok (.invokespecial 32, 3) := by decide +kernel
theorem dX6_init_45 : decode cX6_init 45 = .ok (.putfield 33, 3) := by decide +kernel
theorem dX6_init_48 : decode cX6_init 48 = .ok (.aload_n 0, 1) := by decide +kernel
theorem dX6_init_49 : decode cX6_init 49 = .ok (.new 30, 3) := by decide +kernel
theorem dX6_init_52 : decode cX6_init 52 = .ok (.dup, 1) := by decide +kernel
theorem dX6_init_53 : decode cX6_init 53 = .ok (.invokespecial 32, 3) := by decide +kernel
theorem dX6_init_56 : decode cX6_init 56 = .ok (.putfield 37, 3) := by decide +kernel
theorem dX6_init_59 : decode cX6_init 59 = .ok (.aload_n 0, 1) := by decide +kernel
theorem dX6_init_60 : decode cX6_init 60 = .ok (.new 40, 3) := by decide +kernel
theorem dX6_init_63 : decode cX6_init 63 = .ok (.dup, 1) := by decide +kernel
theorem dX6_init_64 : decode cX6_init 64 = .ok (.invokespecial 42, 3) := by decide +kernel
theorem dX6_init_67 : decode cX6_init 67 = .ok (.putfield 43, 3) := by decide +kernel
theorem dX6_init_70 : decode cX6_init 70 = .ok (.aload_n 0, 1) := by decide +kernel
theorem dX6_init_71 : decode cX6_init 71 = .ok (.new 47, 3) := by decide +kernel
theorem dX6_init_74 : decode cX6_init 74 = .ok (.dup, 1) := by decide +kernel
theorem dX6_init_75 : decode cX6_init 75 = .ok (.invokespecial 49, 3) := by decide +kernel
theorem dX6_init_78 : decode cX6_init 78 = .ok (.putfield 50, 3) := by decide +kernel
theorem dX6_init_81 : decode cX6_init 81 = .ok (.aload_n 0, 1) := by decide +kernel
theorem dX6_init_82 : decode cX6_init 82 = .ok (.bipush 49, 2) := by decide +kernel
theorem dX6_init_84 : decode cX6_init 84 = .ok (.newarray .int, 2) := by decide +kernel
theorem dX6_init_86 : decode cX6_init 86 = .ok (.putfield 54, 3) := by decide +kernel
theorem dX6_init_89 : decode cX6_init 89 = .ok (.aload_n 0, 1) := by decide +kernel
theorem dX6_init_90 : decode cX6_init 90 = .ok (.bipush 61, 2) := by decide +kernel
theorem dX6_init_92 : decode cX6_init 92 = .ok (.newarray .int, 2) := by decide +kernel
theorem dX6_init_94 : decode cX6_init 94 = .ok (.putfield 58, 3) := by decide +kernel
theorem dX6_init_97 : decode cX6_init 97 = .ok (.aload_n 0, 1) := by decide +kernel
theorem dX6_init_98 : decode cX6_init 98 = .ok (.iconst 1, 1) := by decide +kernel
theorem dX6_init_99 : decode cX6_init 99 = .ok (.putfield 61, 3) := by decide +kernel
theorem dX6_init_102 : decode cX6_init 102 = .ok (.return_, 1) := by decide +kernel
theorem dX6_heap_0 : decode cX6_heap 0 = .ok (.iload_n 1, 1) := by decide +kernel
theorem dX6_heap_1 : decode cX6_heap 1 = .ok (.invokestatic 65, 3) := by decide +kernel
theorem dX6_heap_4 : decode cX6_heap 4 = .ok (.ifCond .eq 17, 3) := by decide +kernel
theorem dX6_heap_7 : decode cX6_heap 7 = .ok (.iload_n 2, 1) := by decide +kernel
theorem dX6_heap_8 : decode cX6_heap 8 = .ok (.i2l, 1) := by decide +kernel
theorem dX6_heap_9 : decode cX6_heap 9 = .ok (.ldc2_w 69, 3) := by decide +kernel
theorem dX6_heap_12 : decode cX6_heap 12 = .ok (.ldc2_w 71, 3) := by decide +kernel
theorem dX6_heap_15 : decode cX6_heap 15 = .ok (.invokestatic 73, 3) := by decide +kernel
theorem dX6_heap_18 : decode cX6_heap 18 = .ok (.ifCond .ne 5, 3) := by decide +kernel
theorem dX6_heap_21 : decode cX6_heap 21 = .ok (.iconst (-1), 1) := by decide +kernel
theorem dX6_heap_22 : decode cX6_heap 22 = .ok (.ireturn, 1) := by decide +kernel
theorem dX6_heap_23 : decode cX6_heap 23 = .ok (.iload_n 2, 1) := by decide +kernel
theorem dX6_heap_24 : decode cX6_heap 24 = .ok (.ifCond .ge 7, 3) := by decide +kernel
theorem dX6_heap_27 : decode cX6_heap 27 = .ok (.iconst 0, 1) := by decide +kernel
theorem dX6_heap_28 : decode cX6_heap 28 = .ok (.goto 5, 3) := by decide +kernel
theorem dX6_heap_31 : decode cX6_heap 31 = .ok (.bipush 9, 2) := by decide +kernel
theorem dX6_heap_33 : decode cX6_heap 33 = .ok (.istore 5, 2) := by decide +kernel
theorem dX6_heap_35 : decode cX6_heap 35 = .ok (.iload_n 3, 1) := by decide +kernel
theorem dX6_heap_36 : decode cX6_heap 36 = .ok (.i2l, 1) := by decide +kernel
theorem dX6_heap_37 : decode cX6_heap 37 = .ok (.lconst 0, 1) := by decide +kernel
theorem dX6_heap_38 : decode cX6_heap 38 = .ok (.iload 5, 2) := by decide +kernel
theorem dX6_heap_40 : decode cX6_heap 40 = .ok (.i2l, 1) := by decide +kernel
theorem dX6_heap_41 : decode cX6_heap 41 = .ok (.invokestatic 73, 3) := by decide +kernel
theorem dX6_heap_44 : decode cX6_heap 44 = .ok (.ifCond .eq 16, 3) := by decide +kernel
theorem dX6_heap_47 : decode cX6_heap 47 = .ok (.iload 4, 2) := by decide +kernel
theorem dX6_heap_49 : decode cX6_heap 49 = .ok (.i2l, 1) := by decide +kernel
theorem dX6_heap_50 : decode cX6_heap 50 = .ok (.lconst 0, 1) := by decide +kernel
theorem dX6_heap_51 : decode cX6_heap 51 = .ok (.ldc2_w 77, 3) := by decide +kernel
theorem dX6_heap_54 : decode cX6_heap 54 = .ok (.invokestatic 73, 3) := by decide +kernel
theorem dX6_heap_57 : decode cX6_heap 57 = .ok (.ifCond .ne 6, 3) := by decide +kernel
theorem dX6_heap_60 : decode cX6_heap 60 = .ok (.bipush (-2), 2) := by decide +kernel
theorem dX6_heap_62 : decode cX6_heap 62 = .ok (.ireturn, 1) := by decide +kernel
theorem dX6_heap_63 : decode cX6_heap 63 = .ok (.iload_n 2, 1) := by decide +kernel
theorem dX6_heap_64 : decode cX6_heap 64 = .ok (.ifCond .lt 18, 3) := by decide +kernel
theorem dX6_heap_67 : decode cX6_heap 67 = .ok (.aload_n 0, 1) := by decide +kernel
theorem dX6_heap_68 : decode cX6_heap 68 = .ok (.getfield 12, 3) := by decide +kernel
theorem dX6_heap_71 : decode cX6_heap 71 = .ok (.iload_n 2, 1) := by decide +kernel
theorem dX6_heap_72 : decode cX6_heap 72 = .ok (.iload_n 1, 1) := by decide +kernel
theorem dX6_heap_73 : decode cX6_heap 73 = .ok (.invokevirtual 79, 3) := by decide +kernel
theorem dX6_heap_76 : decode cX6_heap 76 = .ok (.ifCond .eq 6, 3) := by decide +kernel
theorem dX6_heap_79 : decode cX6_heap 79 = .ok (.bipush (-3), 2) := by decide +kernel
theorem dX6_heap_81 : decode cX6_heap 81 = .ok (.ireturn, 1) := by decide +kernel
theorem dX6_heap_82 : decode cX6_heap 82 = .ok (.aload_n 0, 1) := by decide +kernel
theorem dX6_heap_83 : decode cX6_heap 83 = .ok (.getfield 12, 3) := by decide +kernel
theorem dX6_heap_86 : decode cX6_heap 86 = .ok (.getfield 83, 3) := by decide +kernel
theorem dX6_heap_89 : decode cX6_heap 89 = .ok (.iload_n 1, 1) := by decide +kernel
theorem dX6_heap_90 : decode cX6_heap 90 = .ok (.iaload, 1) := by decide +kernel
theorem dX6_heap_91 : decode cX6_heap 91 = .ok (.istore 6, 2) := by decide +kernel
theorem dX6_heap_93 : decode cX6_heap 93 = .ok (.aload_n 0, 1) := by decide +kernel
theorem dX6_heap_94 : decode cX6_heap 94 = .ok (.getfield 12, 3) := by decide +kernel
theorem dX6_heap_97 : decode cX6_heap 97 = .ok (.iload_n 1, 1) := by decide +kernel
theorem dX6_heap_98 : decode cX6_heap 98 = .ok (.iload_n 2, 1) := by decide +kernel
theorem dX6_heap_99 : decode cX6_heap 99 = .ok (.ifCond .ge 8, 3) := by decide +kernel
theorem dX6_heap_102 : decode cX6_heap 102 = .ok (.bipush (-6), 2) := by decide +kernel
theorem dX6_heap_104 : decode cX6_heap 104 = .ok (.goto 4, 3) := by decide +kernel
theorem dX6_heap_107 : decode cX6_heap 107 = .ok (.iload_n 2, 1) := by decide +kernel
theorem dX6_heap_108 : decode cX6_heap 108 = .ok (.iload_n 3, 1) := by decide +kernel
theorem dX6_heap_109 : decode cX6_heap 109 = .ok (.iload 4, 2) := by decide +kernel
theorem dX6_heap_111 : decode cX6_heap 111 = .ok (.invokevirtual 86, 3) := by decide +kernel
theorem dX6_heap_114 : decode cX6_heap 114 = .ok (.iload 6, 2) := by decide +kernel
theorem dX6_heap_116 : decode cX6_heap 116 = .ok (.ireturn, 1) := by decide +kernel
theorem dX6_burners_0 : decode cX6_burners 0 = .ok (.iload_n 1, 1) := by decide +kernel
theorem dX6_burners_1 : decode cX6_burners 1 = .ok (.i2l, 1) := by decide +kernel
theorem dX6_burners_2 : decode cX6_burners 2 = .ok (.lconst 0, 1) := by decide +kernel
theorem dX6_burners_3 : decode cX6_burners 3 = .ok (.ldc2_w 90, 3) := by decide +kernel
theorem dX6_burners_6 : decode cX6_burners 6 = .ok (.invokestatic 73, 3) := by decide +kernel
theorem dX6_burners_9 : decode cX6_burners 9 = .ok (.ifCond .ne 6, 3) := by decide +kernel
theorem dX6_burners_12 : decode cX6_burners 12 = .ok (.bipush (-2), 2) := by decide +kernel
theorem dX6_burners_14 : decode cX6_burners 14 = .ok (.ireturn, 1) := by decide +kernel
theorem dX6_burners_15 : decode cX6_burners 15 = .ok (.aload_n 0, 1) := by decide +kernel
theorem dX6_burners_16 : decode cX6_burners 16 = .ok (.getfield 12, 3) := by decide +kernel
theorem dX6_burners_19 : decode cX6_burners 19 = .ok (.getfield 92, 3) := by decide +kernel
theorem dX6_burners_22 : decode cX6_burners 22 = .ok (.invokestatic 95, 3) := by decide +kernel
theorem dX6_burners_25 : decode cX6_burners 25 = .ok (.iload_n 1, 1) := by decide +kernel
theorem dX6_burners_26 : decode cX6_burners 26 = .ok (.if_icmp .le 6, 3) := by decide +kernel
theorem dX6_burners_29 : decode cX6_burners 29 = .ok (.bipush (-3), 2) := by decide +kernel
theorem dX6_burners_31 : decode cX6_burners 31 = .ok (.ireturn, 1) := by decide +kernel
theorem dX6_burners_32 : decode cX6_burners 32 = .ok (.aload_n 0, 1) := by decide +kernel
theorem dX6_burners_33 : decode cX6_burners 33 = .ok (.getfield 12, 3) := by decide +kernel
theorem dX6_burners_36 : decode cX6_burners 36 = .ok (.getfield 101, 3) := by decide +kernel
theorem dX6_burners_39 : decode cX6_burners 39 = .ok (.istore_n 2, 1) := by decide +kernel
theorem dX6_burners_40 : decode cX6_burners 40 = .ok (.aload_n 0, 1) := by decide +kernel
theorem dX6_burners_41 : decode cX6_burners 41 = .ok (.getfield 12, 3) := by decide +kernel
theorem dX6_burners_44 : decode cX6_burners 44 = .ok (.iload_n 1, 1) := by decide +kernel
theorem dX6_burners_45 : decode cX6_burners 45 = .ok (.putfield 101, 3) := by decide +kernel
theorem dX6_burners_48 : decode cX6_burners 48 = .ok (.iload_n 2, 1) := by decide +kernel
theorem dX6_burners_49 : decode cX6_burners 49 = .ok (.ireturn, 1) := by decide +kernel
theorem dX6_say_0 : decode cX6_say 0 = .ok (.iload_n 1, 1) := by decide +kernel
theorem dX6_say_1 : decode cX6_say 1 = .ok (.i2l, 1) := by decide +kernel
theorem dX6_say_2 : decode cX6_say 2 = .ok (.ldc2_w 104, 3) := by decide +kernel
theorem dX6_say_5 : decode cX6_say 5 = .ok (.ldc2_w 106, 3) := by decide +kernel
theorem dX6_say_8 : decode cX6_say 8 = .ok (.invokestatic 73, 3) := by decide +kernel
theorem dX6_say_11 : decode cX6_say 11 = .ok (.ifCond .ne 6, 3) := by decide +kernel
theorem dX6_say_14 : decode cX6_say 14 = .ok (.bipush (-2), 2) := by decide +kernel
theorem dX6_say_16 : decode cX6_say 16 = .ok (.ireturn, 1) := by decide +kernel
theorem dX6_say_17 : decode cX6_say 17 = .ok (.aload_n 0, 1) := by decide +kernel
theorem dX6_say_18 : decode cX6_say 18 = .ok (.getfield 19, 3) := by decide +kernel
theorem dX6_say_21 : decode cX6_say 21 = .ok (.iload_n 1, 1) := by decide +kernel
theorem dX6_say_22 : decode cX6_say 22 = .ok (.invokevirtual 108, 3) := by decide +kernel
theorem dX6_say_25 : decode cX6_say 25 = .ok (.ifCond .eq 13, 3) := by decide +kernel
theorem dX6_say_28 : decode cX6_say 28 = .ok (.aload_n 0, 1) := by decide +kernel
theorem dX6_say_29 : decode cX6_say 29 = .ok (.getfield 19, 3) := by decide +kernel
theorem dX6_say_32 : decode cX6_say 32 = .ok (.getfield 111, 3) := by decide +kernel
theorem dX6_say_35 : decode cX6_say 35 = .ok (.goto 5, 3) := by decide +kernel
theorem dX6_say_38 : decode cX6_say 38 = .ok (.bipush (-4), 2) := by decide +kernel
theorem dX6_say_40 : decode cX6_say 40 = .ok (.ireturn, 1) := by decide +kernel
theorem dX6_wipe_0 : decode cX6_wipe 0 = .ok (.aload_n 0, 1) := by decide +kernel
theorem dX6_wipe_1 : decode cX6_wipe 1 = .ok (.getfield 19, 3) := by decide +kernel
theorem dX6_wipe_4 : decode cX6_wipe 4 = .ok (.getfield 111, 3) := by decide +kernel
theorem dX6_wipe_7 : decode cX6_wipe 7 = .ok (.istore_n 1, 1) := by decide +kernel
theorem dX6_wipe_8 : decode cX6_wipe 8 = .ok (.aload_n 0, 1) := by decide +kernel
theorem dX6_wipe_9 : decode cX6_wipe 9 = .ok (.getfield 19, 3) := by decide +kernel
theorem dX6_wipe_12 : decode cX6_wipe 12 = .ok (.iconst 0, 1) := by decide +kernel
theorem dX6_wipe_13 : decode cX6_wipe 13 = .ok (.putfield 111, 3) := by decide +kernel
theorem dX6_wipe_16 : decode cX6_wipe 16 = .ok (.iload_n 1, 1) := by decide +kernel
theorem dX6_wipe_17 : decode cX6_wipe 17 = .ok (.ireturn, 1) := by decide +kernel
theorem dX6_fault_0 : decode cX6_fault 0 = .ok (.aload_n 0, 1) := by decide +kernel
theorem dX6_fault_1 : decode cX6_fault 1 = .ok (.getfield 19, 3) := by decide +kernel
theorem dX6_fault_4 : decode cX6_fault 4 = .ok (.invokevirtual 114, 3) := by decide +kernel
theorem dX6_fault_7 : decode cX6_fault 7 = .ok (.ireturn, 1) := by decide +kernel
theorem dX6_judge_0 : decode cX6_judge 0 = .ok (.iload_n 1, 1) := by decide +kernel
theorem dX6_judge_1 : decode cX6_judge 1 = .ok (.i2l, 1) := by decide +kernel
theorem dX6_judge_2 : decode cX6_judge 2 = .ok (.lconst 0, 1) := by decide +kernel
theorem dX6_judge_3 : decode cX6_judge 3 = .ok (.lconst 1, 1) := by decide +kernel
theorem dX6_judge_4 : decode cX6_judge 4 = .ok (.invokestatic 73, 3) := by decide +kernel
theorem dX6_judge_7 : decode cX6_judge 7 = .ok (.ifCond .ne 6, 3) := by decide +kernel
theorem dX6_judge_10 : decode cX6_judge 10 = .ok (.bipush (-2), 2) := by decide +kernel
theorem dX6_judge_12 : decode cX6_judge 12 = .ok (.ireturn, 1) := by decide +kernel
theorem dX6_judge_13 : decode cX6_judge 13 = .ok (.aload_n 0, 1) := by decide +kernel
theorem dX6_judge_14 : decode cX6_judge 14 = .ok (.getfield 19, 3) := by decide +kernel
theorem dX6_judge_17 : decode cX6_judge 17 = .ok (.invokevirtual 114, 3) := by decide +kernel
theorem dX6_judge_20 : decode cX6_judge 20 = .ok (.bipush (-6), 2) := by decide +kernel
theorem dX6_judge_22 : decode cX6_judge 22 = .ok (.if_icmp .eq 6, 3) := by decide +kernel
theorem dX6_judge_25 : decode cX6_judge 25 = .ok (.bipush (-5), 2) := by decide +kernel
theorem dX6_judge_27 : decode cX6_judge 27 = .ok (.ireturn, 1) := by decide +kernel
theorem dX6_judge_28 : decode cX6_judge 28 = .ok (.aload_n 0, 1) := by decide +kernel
theorem dX6_judge_29 : decode cX6_judge 29 = .ok (.getfield 43, 3) := by decide +kernel
theorem dX6_judge_32 : decode cX6_judge 32 = .ok (.aload_n 0, 1) := by decide +kernel
theorem dX6_judge_33 : decode cX6_judge 33 = .ok (.getfield 19, 3) := by decide +kernel
theorem dX6_judge_36 : decode cX6_judge 36 = .ok (.aload_n 0, 1) := by decide +kernel
theorem dX6_judge_37 : decode cX6_judge 37 = .ok (.getfield 12, 3) := by decide +kernel
theorem dX6_judge_40 : decode cX6_judge 40 = .ok (.invokevirtual 118, 3) := by decide +kernel
theorem dX6_judge_43 : decode cX6_judge 43 = .ok (.pop, 1) := by decide +kernel
theorem dX6_judge_44 : decode cX6_judge 44 = .ok (.iload_n 1, 1) := by decide +kernel
theorem dX6_judge_45 : decode cX6_judge 45 = .ok (.ifCond .ne 13, 3) := by decide +kernel
theorem dX6_judge_48 : decode cX6_judge 48 = .ok (.aload_n 0, 1) := by decide +kernel
theorem dX6_judge_49 : decode cX6_judge 49 = .ok (.getfield 43, 3) := by decide +kernel
theorem dX6_judge_52 : decode cX6_judge 52 = .ok (.getfield 122, 3) := by decide +kernel
theorem dX6_judge_55 : decode cX6_judge 55 = .ok (.goto 10, 3) := by decide +kernel
theorem dX6_judge_58 : decode cX6_judge 58 = .ok (.aload_n 0, 1) := by decide +kernel
theorem dX6_judge_59 : decode cX6_judge 59 = .ok (.getfield 43, 3) := by decide +kernel
theorem dX6_judge_62 : decode cX6_judge 62 = .ok (.getfield 125, 3) := by decide +kernel
theorem dX6_judge_65 : decode cX6_judge 65 = .ok (.ireturn, 1) := by decide +kernel
theorem dX6_done_0 : decode cX6_done 0 = .ok (.aload_n 0, 1) := by decide +kernel
theorem dX6_done_1 : decode cX6_done 1 = .ok (.getfield 43, 3) := by decide +kernel
theorem dX6_done_4 : decode cX6_done 4 = .ok (.aload_n 0, 1) := by decide +kernel
theorem dX6_done_5 : decode cX6_done 5 = .ok (.getfield 19, 3) := by decide +kernel
theorem dX6_done_8 : decode cX6_done 8 = .ok (.aload_n 0, 1) := by decide +kernel
theorem dX6_done_9 : decode cX6_done 9 = .ok (.getfield 12, 3) := by decide +kernel
theorem dX6_done_12 : decode cX6_done 12 = .ok (.invokevirtual 118, 3) := by decide +kernel
theorem dX6_done_15 : decode cX6_done 15 = .ok (.ifCond .ne 6, 3) := by decide +kernel
theorem dX6_done_18 : decode cX6_done 18 = .ok (.bipush (-5), 2) := by decide +kernel
theorem dX6_done_20 : decode cX6_done 20 = .ok (.ireturn, 1) := by decide +kernel
theorem dX6_done_21 : decode cX6_done 21 = .ok (.aload_n 0, 1) := by decide +kernel
theorem dX6_done_22 : decode cX6_done 22 = .ok (.getfield 12, 3) := by decide +kernel
theorem dX6_done_25 : decode cX6_done 25 = .ok (.aload_n 0, 1) := by decide +kernel
theorem dX6_done_26 : decode cX6_done 26 = .ok (.getfield 43, 3) := by decide +kernel
theorem dX6_done_29 : decode cX6_done 29 = .ok (.getfield 128, 3) := by decide +kernel
theorem dX6_done_32 : decode cX6_done 32 = .ok (.invokevirtual 131, 3) := by decide +kernel
theorem dX6_done_35 : decode cX6_done 35 = .ok (.aload_n 0, 1) := by decide +kernel
theorem dX6_done_36 : decode cX6_done 36 = .ok (.getfield 19, 3) := by decide +kernel
theorem dX6_done_39 : decode cX6_done 39 = .ok (.iconst 0, 1) := by decide +kernel
theorem dX6_done_40 : decode cX6_done 40 = .ok (.putfield 111, 3) := by decide +kernel
theorem dX6_done_43 : decode cX6_done 43 = .ok (.aload_n 0, 1) := by decide +kernel
theorem dX6_done_44 : decode cX6_done 44 = .ok (.getfield 43, 3) := by decide +kernel
theorem dX6_done_47 : decode cX6_done 47 = .ok (.getfield 135, 3) := by decide +kernel
theorem dX6_done_50 : decode cX6_done 50 = .ok (.ireturn, 1) := by decide +kernel
theorem dX6_behind_0 : decode cX6_behind 0 = .ok (.iload_n 1, 1) := by decide +kernel
theorem dX6_behind_1 : decode cX6_behind 1 = .ok (.invokestatic 65, 3) := by decide +kernel
theorem dX6_behind_4 : decode cX6_behind 4 = .ok (.ifCond .ne 5, 3) := by decide +kernel
theorem dX6_behind_7 : decode cX6_behind 7 = .ok (.iconst (-1), 1) := by decide +kernel
theorem dX6_behind_8 : decode cX6_behind 8 = .ok (.ireturn, 1) := by decide +kernel
theorem dX6_behind_9 : decode cX6_behind 9 = .ok (.iload_n 2, 1) := by decide +kernel
theorem dX6_behind_10 : decode cX6_behind 10 = .ok (.i2l, 1) := by decide +kernel
theorem dX6_behind_11 : decode cX6_behind 11 = .ok (.lconst 0, 1) := by decide +kernel
theorem dX6_behind_12 : decode cX6_behind 12 = .ok (.ldc2_w 138, 3) := by decide +kernel
theorem dX6_behind_15 : decode cX6_behind 15 = .ok (.invokestatic 73, 3) := by decide +kernel
theorem dX6_behind_18 : decode cX6_behind 18 = .ok (.ifCond .ne 6, 3) := by decide +kernel
theorem dX6_behind_21 : decode cX6_behind 21 = .ok (.bipush (-2), 2) := by decide +kernel
theorem dX6_behind_23 : decode cX6_behind 23 = .ok (.ireturn, 1) := by decide +kernel
theorem dX6_behind_24 : decode cX6_behind 24 = .ok (.aload_n 0, 1) := by decide +kernel
theorem dX6_behind_25 : decode cX6_behind 25 = .ok (.getfield 43, 3) := by decide +kernel
theorem dX6_behind_28 : decode cX6_behind 28 = .ok (.aload_n 0, 1) := by decide +kernel
theorem dX6_behind_29 : decode cX6_behind 29 = .ok (.getfield 19, 3) := by decide +kernel
theorem dX6_behind_32 : decode cX6_behind 32 = .ok (.aload_n 0, 1) := by decide +kernel
theorem dX6_behind_33 : decode cX6_behind 33 = .ok (.getfield 12, 3) := by decide +kernel
theorem dX6_behind_36 : decode cX6_behind 36 = .ok (.invokevirtual 118, 3) := by decide +kernel
theorem dX6_behind_39 : decode cX6_behind 39 = .ok (.ifCond .ne 6, 3) := by decide +kernel
theorem dX6_behind_42 : decode cX6_behind 42 = .ok (.bipush (-5), 2) := by decide +kernel
theorem dX6_behind_44 : decode cX6_behind 44 = .ok (.ireturn, 1) := by decide +kernel
theorem dX6_behind_45 : decode cX6_behind 45 = .ok (.iload_n 2, 1) := by decide +kernel
theorem dX6_behind_46 : decode cX6_behind 46 = .ok (.lookupswitch 52 #[(0, 26), (1, 39)], 26) := by decide +kernel
theorem dX6_behind_72 : decode cX6_behind 72 = .ok (.aload_n 0, 1) := by decide +kernel
theorem dX6_behind_73 : decode cX6_behind 73 = .ok (.getfield 43, 3) := by decide +kernel
theorem dX6_behind_76 : decode cX6_behind 76 = .ok (.getfield 128, 3) := by decide +kernel
theorem dX6_behind_79 : decode cX6_behind 79 = .ok (.getfield 140, 3) := by decide +kernel
theorem dX6_behind_82 : decode cX6_behind 82 = .ok (.iload_n 1, 1) := by decide +kernel
theorem dX6_behind_83 : decode cX6_behind 83 = .ok (.iaload, 1) := by decide +kernel
theorem dX6_behind_84 : decode cX6_behind 84 = .ok (.ireturn, 1) := by decide +kernel
theorem dX6_behind_85 : decode cX6_behind 85 = .ok (.aload_n 0, 1) := by decide +kernel
theorem dX6_behind_86 : decode cX6_behind 86 = .ok (.getfield 43, 3) := by decide +kernel
theorem dX6_behind_89 : decode cX6_behind 89 = .ok (.getfield 128, 3) := by decide +kernel
theorem dX6_behind_92 : decode cX6_behind 92 = .ok (.getfield 143, 3) := by decide +kernel
theorem dX6_behind_95 : decode cX6_behind 95 = .ok (.iload_n 1, 1) := by decide +kernel
theorem dX6_behind_96 : decode cX6_behind 96 = .ok (.iaload, 1) := by decide +kernel
theorem dX6_behind_97 : decode cX6_behind 97 = .ok (.ireturn, 1) := by decide +kernel
theorem dX6_behind_98 : decode cX6_behind 98 = .ok (.aload_n 0, 1) := by decide +kernel
theorem dX6_behind_99 : decode cX6_behind 99 = .ok (.getfield 43, 3) := by decide +kernel
theorem dX6_behind_102 : decode cX6_behind 102 = .ok (.getfield 128, 3) := by decide +kernel
theorem dX6_behind_105 : decode cX6_behind 105 = .ok (.getfield 83, 3) := by decide +kernel
theorem dX6_behind_108 : decode cX6_behind 108 = .ok (.iload_n 1, 1) := by decide +kernel
theorem dX6_behind_109 : decode cX6_behind 109 = .ok (.iaload, 1) := by decide +kernel
theorem dX6_behind_110 : decode cX6_behind 110 = .ok (.ireturn, 1) := by decide +kernel
theorem dX6_then_0 : decode cX6_then 0 = .ok (.iload_n 1, 1) := by decide +kernel
theorem dX6_then_1 : decode cX6_then 1 = .ok (.i2l, 1) := by decide +kernel
theorem dX6_then_2 : decode cX6_then 2 = .ok (.lconst 0, 1) := by decide +kernel
theorem dX6_then_3 : decode cX6_then 3 = .ok (.ldc2_w 90, 3) := by decide +kernel
theorem dX6_then_6 : decode cX6_then 6 = .ok (.invokestatic 73, 3) := by decide +kernel
theorem dX6_then_9 : decode cX6_then 9 = .ok (.ifCond .ne 6, 3) := by decide +kernel
theorem dX6_then_12 : decode cX6_then 12 = .ok (.bipush (-2), 2) := by decide +kernel
theorem dX6_then_14 : decode cX6_then 14 = .ok (.ireturn, 1) := by decide +kernel
theorem dX6_then_15 : decode cX6_then 15 = .ok (.aload_n 0, 1) := by decide +kernel
theorem dX6_then_16 : decode cX6_then 16 = .ok (.getfield 43, 3) := by decide +kernel
theorem dX6_then_19 : decode cX6_then 19 = .ok (.aload_n 0, 1) := by decide +kernel
theorem dX6_then_20 : decode cX6_then 20 = .ok (.getfield 19, 3) := by decide +kernel
theorem dX6_then_23 : decode cX6_then 23 = .ok (.aload_n 0, 1) := by decide +kernel
theorem dX6_then_24 : decode cX6_then 24 = .ok (.getfield 12, 3) := by decide +kernel
theorem dX6_then_27 : decode cX6_then 27 = .ok (.invokevirtual 118, 3) := by decide +kernel
theorem dX6_then_30 : decode cX6_then 30 = .ok (.ifCond .ne 6, 3) := by decide +kernel
theorem dX6_then_33 : decode cX6_then 33 = .ok (.bipush (-5), 2) := by decide +kernel
theorem dX6_then_35 : decode cX6_then 35 = .ok (.ireturn, 1) := by decide +kernel
theorem dX6_then_36 : decode cX6_then 36 = .ok (.iload_n 1, 1) := by decide +kernel
theorem dX6_then_37 : decode cX6_then 37 = .ok (.tableswitch 99 0 5 #[39, 50, 61, 72, 80, 91], 39) := by decide +kernel
theorem dX6_then_76 : decode cX6_then 76 = .ok (.aload_n 0, 1) := by decide +kernel
theorem dX6_then_77 : decode cX6_then 77 = .ok (.getfield 43, 3) := by decide +kernel
theorem dX6_then_80 : decode cX6_then 80 = .ok (.getfield 128, 3) := by decide +kernel
theorem dX6_then_83 : decode cX6_then 83 = .ok (.getfield 146, 3) := by decide +kernel
theorem dX6_then_86 : decode cX6_then 86 = .ok (.ireturn, 1) := by decide +kernel
theorem dX6_then_87 : decode cX6_then 87 = .ok (.aload_n 0, 1) := by decide +kernel
theorem dX6_then_88 : decode cX6_then 88 = .ok (.getfield 43, 3) := by decide +kernel
theorem dX6_then_91 : decode cX6_then 91 = .ok (.getfield 128, 3) := by decide +kernel
theorem dX6_then_94 : decode cX6_then 94 = .ok (.getfield 149, 3) := by decide +kernel
theorem dX6_then_97 : decode cX6_then 97 = .ok (.ireturn, 1) := by decide +kernel
theorem dX6_then_98 : decode cX6_then 98 = .ok (.aload_n 0, 1) := by decide +kernel
theorem dX6_then_99 : decode cX6_then 99 = .ok (.getfield 43, 3) := by decide +kernel
theorem dX6_then_102 : decode cX6_then 102 = .ok (.getfield 128, 3) := by decide +kernel
theorem dX6_then_105 : decode cX6_then 105 = .ok (.getfield 92, 3) := by decide +kernel
theorem dX6_then_108 : decode cX6_then 108 = .ok (.ireturn, 1) := by decide +kernel
theorem dX6_then_109 : decode cX6_then 109 = .ok (.aload_n 0, 1) := by decide +kernel
theorem dX6_then_110 : decode cX6_then 110 = .ok (.getfield 43, 3) := by decide +kernel
theorem dX6_then_113 : decode cX6_then 113 = .ok (.getfield 152, 3) := by decide +kernel
theorem dX6_then_116 : decode cX6_then 116 = .ok (.ireturn, 1) := by decide +kernel
theorem dX6_then_117 : decode cX6_then 117 = .ok (.aload_n 0, 1) := by decide +kernel
theorem dX6_then_118 : decode cX6_then 118 = .ok (.getfield 43, 3) := by decide +kernel
theorem dX6_then_121 : decode cX6_then 121 = .ok (.getfield 128, 3) := by decide +kernel
theorem dX6_then_124 : decode cX6_then 124 = .ok (.getfield 155, 3) := by decide +kernel
theorem dX6_then_127 : decode cX6_then 127 = .ok (.ireturn, 1) := by decide +kernel
theorem dX6_then_128 : decode cX6_then 128 = .ok (.aload_n 0, 1) := by decide +kernel
theorem dX6_then_129 : decode cX6_then 129 = .ok (.getfield 43, 3) := by decide +kernel
theorem dX6_then_132 : decode cX6_then 132 = .ok (.getfield 158, 3) := by decide +kernel
theorem dX6_then_135 : decode cX6_then 135 = .ok (.ireturn, 1) := by decide +kernel
theorem dX6_then_136 : decode cX6_then 136 = .ok (.aload_n 0, 1) := by decide +kernel
theorem dX6_then_137 : decode cX6_then 137 = .ok (.getfield 43, 3) := by decide +kernel
theorem dX6_then_140 : decode cX6_then 140 = .ok (.getfield 161, 3) := by decide +kernel
theorem dX6_then_143 : decode cX6_then 143 = .ok (.ireturn, 1) := by decide +kernel
theorem dX6_chain_0 : decode cX6_chain 0 = .ok (.iload_n 1, 1) := by decide +kernel
theorem dX6_chain_1 : decode cX6_chain 1 = .ok (.invokestatic 65, 3) := by decide +kernel
theorem dX6_chain_4 : decode cX6_chain 4 = .ok (.ifCond .ne 5, 3) := by decide +kernel
theorem dX6_chain_7 : decode cX6_chain 7 = .ok (.iconst (-1), 1) := by decide +kernel
theorem dX6_chain_8 : decode cX6_chain 8 = .ok (.ireturn, 1) := by decide +kernel
theorem dX6_chain_9 : decode cX6_chain 9 = .ok (.aload_n 0, 1) := by decide +kernel
theorem dX6_chain_10 : decode cX6_chain 10 = .ok (.getfield 12, 3) := by decide +kernel
theorem dX6_chain_13 : decode cX6_chain 13 = .ok (.iload_n 1, 1) := by decide +kernel
theorem dX6_chain_14 : decode cX6_chain 14 = .ok (.invokevirtual 164, 3) := by decide +kernel
theorem dX6_chain_17 : decode cX6_chain 17 = .ok (.ifCond .ne 6, 3) := by decide +kernel
theorem dX6_chain_20 : decode cX6_chain 20 = .ok (.bipush (-3), 2) := by decide +kernel
theorem dX6_chain_22 : decode cX6_chain 22 = .ok (.ireturn, 1) := by decide +kernel
theorem dX6_chain_23 : decode cX6_chain 23 = .ok (.aload_n 0, 1) := by decide +kernel
theorem dX6_chain_24 : decode cX6_chain 24 = .ok (.getfield 12, 3) := by decide +kernel
theorem dX6_chain_27 : decode cX6_chain 27 = .ok (.iload_n 1, 1) := by decide +kernel
theorem dX6_chain_28 : decode cX6_chain 28 = .ok (.iconst 0, 1) := by decide +kernel
theorem dX6_chain_29 : decode cX6_chain 29 = .ok (.invokevirtual 167, 3) := by decide +kernel
theorem dX6_chain_32 : decode cX6_chain 32 = .ok (.ireturn, 1) := by decide +kernel
theorem dX6_cover_0 : decode cX6_cover 0 = .ok (.iload_n 1, 1) := by decide +kernel
theorem dX6_cover_1 : decode cX6_cover 1 = .ok (.invokestatic 65, 3) := by decide +kernel
theorem dX6_cover_4 : decode cX6_cover 4 = .ok (.ifCond .eq 15, 3) := by decide +kernel
theorem dX6_cover_7 : decode cX6_cover 7 = .ok (.iload_n 2, 1) := by decide +kernel
theorem dX6_cover_8 : decode cX6_cover 8 = .ok (.invokestatic 65, 3) := by decide +kernel
theorem dX6_cover_11 : decode cX6_cover 11 = .ok (.ifCond .eq 8, 3) := by decide +kernel
theorem dX6_cover_14 : decode cX6_cover 14 = .ok (.iload_n 1, 1) := by decide +kernel
theorem dX6_cover_15 : decode cX6_cover 15 = .ok (.iload_n 2, 1) := by decide +kernel
theorem dX6_cover_16 : decode cX6_cover 16 = .ok (.if_icmp .ne 5, 3) := by decide +kernel
theorem dX6_cover_19 : decode cX6_cover 19 = .ok (.iconst (-1), 1) := by decide +kernel
theorem dX6_cover_20 : decode cX6_cover 20 = .ok (.ireturn, 1) := by decide +kernel
theorem dX6_cover_21 : decode cX6_cover 21 = .ok (.iload_n 3, 1) := by decide +kernel
theorem dX6_cover_22 : decode cX6_cover 22 = .ok (.i2l, 1) := by decide +kernel
theorem dX6_cover_23 : decode cX6_cover 23 = .ok (.lconst 0, 1) := by decide +kernel
theorem dX6_cover_24 : decode cX6_cover 24 = .ok (.lconst 1, 1) := by decide +kernel
theorem dX6_cover_25 : decode cX6_cover 25 = .ok (.invokestatic 73, 3) := by decide +kernel
theorem dX6_cover_28 : decode cX6_cover 28 = .ok (.ifCond .ne 6, 3) := by decide +kernel
theorem dX6_cover_31 : decode cX6_cover 31 = .ok (.bipush (-2), 2) := by decide +kernel
theorem dX6_cover_33 : decode cX6_cover 33 = .ok (.ireturn, 1) := by decide +kernel
theorem dX6_cover_34 : decode cX6_cover 34 = .ok (.aload_n 0, 1) := by decide +kernel
theorem dX6_cover_35 : decode cX6_cover 35 = .ok (.getfield 12, 3) := by decide +kernel
theorem dX6_cover_38 : decode cX6_cover 38 = .ok (.iload_n 1, 1) := by decide +kernel
theorem dX6_cover_39 : decode cX6_cover 39 = .ok (.invokevirtual 164, 3) := by decide +kernel
theorem dX6_cover_42 : decode cX6_cover 42 = .ok (.ifCond .eq 14, 3) := by decide +kernel
theorem dX6_cover_45 : decode cX6_cover 45 = .ok (.aload_n 0, 1) := by decide +kernel
theorem dX6_cover_46 : decode cX6_cover 46 = .ok (.getfield 12, 3) := by decide +kernel
theorem dX6_cover_49 : decode cX6_cover 49 = .ok (.iload_n 2, 1) := by decide +kernel
theorem dX6_cover_50 : decode cX6_cover 50 = .ok (.invokevirtual 164, 3) := by decide +kernel
theorem dX6_cover_53 : decode cX6_cover 53 = .ok (.ifCond .ne 6, 3) := by decide +kernel
theorem dX6_cover_56 : decode cX6_cover 56 = .ok (.bipush (-3), 2) := by decide +kernel
theorem dX6_cover_58 : decode cX6_cover 58 = .ok (.ireturn, 1) := by decide +kernel
theorem dX6_cover_59 : decode cX6_cover 59 = .ok (.aload_n 0, 1) := by decide +kernel
theorem dX6_cover_60 : decode cX6_cover 60 = .ok (.iload_n 1, 1) := by decide +kernel
theorem dX6_cover_61 : decode cX6_cover 61 = .ok (.iload_n 2, 1) := by decide +kernel
theorem dX6_cover_62 : decode cX6_cover 62 = .ok (.invokevirtual 171, 3) := by decide +kernel
theorem dX6_cover_65 : decode cX6_cover 65 = .ok (.istore 4, 2) := by decide +kernel
theorem dX6_cover_67 : decode cX6_cover 67 = .ok (.iload 4, 2) := by decide +kernel
theorem dX6_cover_69 : decode cX6_cover 69 = .ok (.bipush (-6), 2) := by decide +kernel
theorem dX6_cover_71 : decode cX6_cover 71 = .ok (.if_icmp .ne 6, 3) := by decide +kernel
theorem dX6_cover_74 : decode cX6_cover 74 = .ok (.bipush (-6), 2) := by decide +kernel
theorem dX6_cover_76 : decode cX6_cover 76 = .ok (.ireturn, 1) := by decide +kernel
theorem dX6_cover_77 : decode cX6_cover 77 = .ok (.iload_n 3, 1) := by decide +kernel
theorem dX6_cover_78 : decode cX6_cover 78 = .ok (.ifCond .ne 11, 3) := by decide +kernel
theorem dX6_cover_81 : decode cX6_cover 81 = .ok (.iload 4, 2) := by decide +kernel
theorem dX6_cover_83 : decode cX6_cover 83 = .ok (.invokestatic 95, 3) := by decide +kernel
theorem dX6_cover_86 : decode cX6_cover 86 = .ok (.goto 5, 3) := by decide +kernel
theorem dX6_cover_89 : decode cX6_cover 89 = .ok (.iload 4, 2) := by decide +kernel
theorem dX6_cover_91 : decode cX6_cover 91 = .ok (.ireturn, 1) := by decide +kernel
theorem dX6_fewestCovered_0 : decode cX6_fewestCovered 0 = .ok (.iconst 1, 1) := by decide +kernel
theorem dX6_fewestCovered_1 : decode cX6_fewestCovered 1 = .ok (.iload_n 1, 1) := by decide +kernel
theorem dX6_fewestCovered_2 : decode cX6_fewestCovered 2 = .ok (.ishl, 1) := by decide +kernel
theorem dX6_fewestCovered_3 : decode cX6_fewestCovered 3 = .ok (.iconst 1, 1) := by decide +kernel
theorem dX6_fewestCovered_4 : decode cX6_fewestCovered 4 = .ok (.iload_n 2, 1) := by decide +kernel
theorem dX6_fewestCovered_5 : decode cX6_fewestCovered 5 = .ok (.ishl, 1) := by decide +kernel
theorem dX6_fewestCovered_6 : decode cX6_fewestCovered 6 = .ok (.ior, 1) := by decide +kernel
theorem dX6_fewestCovered_7 : decode cX6_fewestCovered 7 = .ok (.istore_n 3, 1) := by decide +kernel
theorem dX6_fewestCovered_8 : decode cX6_fewestCovered 8 = .ok (.bipush (-6), 2) := by decide +kernel
theorem dX6_fewestCovered_10 : decode cX6_fewestCovered 10 = .ok (.istore 4, 2) := by decide +kernel
theorem dX6_fewestCovered_12 : decode cX6_fewestCovered 12 = .ok (.bipush 7, 2) := by decide +kernel
theorem dX6_fewestCovered_14 : decode cX6_fewestCovered 14 = .ok (.istore 5, 2) := by decide +kernel
theorem dX6_fewestCovered_16 : decode cX6_fewestCovered 16 = .ok (.iconst 0, 1) := by decide +kernel
theorem dX6_fewestCovered_17 : decode cX6_fewestCovered 17 = .ok (.istore 6, 2) := by decide +kernel
theorem dX6_fewestCovered_19 : decode cX6_fewestCovered 19 = .ok (.iload 6, 2) := by decide +kernel
theorem dX6_fewestCovered_21 : decode cX6_fewestCovered 21 = .ok (.bipush 64, 2) := by decide +kernel
theorem dX6_fewestCovered_23 : decode cX6_fewestCovered 23 = .ok (.if_icmp .ge 66, 3) := by decide +kernel
theorem dX6_fewestCovered_26 : decode cX6_fewestCovered 26 = .ok (.iload 6, 2) := by decide +kernel
theorem dX6_fewestCovered_28 : decode cX6_fewestCovered 28 = .ok (.iload_n 3, 1) := by decide +kernel
theorem dX6_fewestCovered_29 : decode cX6_fewestCovered 29 = .ok (.iand, 1) := by decide +kernel
theorem dX6_fewestCovered_30 : decode cX6_fewestCovered 30 = .ok (.ifCond .ne 17, 3) := by decide +kernel
theorem dX6_fewestCovered_33 : decode cX6_fewestCovered 33 = .ok (.iload 6, 2) := by decide +kernel
theorem dX6_fewestCovered_35 : decode cX6_fewestCovered 35 = .ok (.invokestatic 95, 3) := by decide +kernel
theorem dX6_fewestCovered_38 : decode cX6_fewestCovered 38 = .ok (.iload 5, 2) := by decide +kernel
theorem dX6_fewestCovered_40 : decode cX6_fewestCovered 40 = .ok (.if_icmp .ge 7, 3) := by decide +kernel
theorem dX6_fewestCovered_43 : decode cX6_fewestCovered 43 = .ok (.iconst 1, 1) := by decide +kernel
theorem dX6_fewestCovered_44 : decode cX6_fewestCovered 44 = .ok (.goto 4, 3) := by decide +kernel
theorem dX6_fewestCovered_47 : decode cX6_fewestCovered 47 = .ok (.iconst 0, 1) := by decide +kernel
theorem dX6_fewestCovered_48 : decode cX6_fewestCovered 48 = .ok (.istore 7, 2) := by decide +kernel
theorem dX6_fewestCovered_50 : decode cX6_fewestCovered 50 = .ok (.iload 7, 2) := by decide +kernel
theorem dX6_fewestCovered_52 : decode cX6_fewestCovered 52 = .ok (.ifCond .eq 31, 3) := by decide +kernel
theorem dX6_fewestCovered_55 : decode cX6_fewestCovered 55 = .ok (.aload_n 0, 1) := by decide +kernel
theorem dX6_fewestCovered_56 : decode cX6_fewestCovered 56 = .ok (.getfield 12, 3) := by decide +kernel
theorem dX6_fewestCovered_59 : decode cX6_fewestCovered 59 = .ok (.iload_n 1, 1) := by decide +kernel
theorem dX6_fewestCovered_60 : decode cX6_fewestCovered 60 = .ok (.iload 6, 2) := by decide +kernel
theorem dX6_fewestCovered_62 : decode cX6_fewestCovered 62 = .ok (.invokevirtual 167, 3) := by decide +kernel
theorem dX6_fewestCovered_65 : decode cX6_fewestCovered 65 = .ok (.iload_n 2, 1) := by decide +kernel
theorem dX6_fewestCovered_66 : decode cX6_fewestCovered 66 = .ok (.invokestatic 174, 3) := by decide +kernel
theorem dX6_fewestCovered_69 : decode cX6_fewestCovered 69 = .ok (.ifCond .ne 14, 3) := by decide +kernel
theorem dX6_fewestCovered_72 : decode cX6_fewestCovered 72 = .ok (.iload 6, 2) := by decide +kernel
theorem dX6_fewestCovered_74 : decode cX6_fewestCovered 74 = .ok (.istore 4, 2) := by decide +kernel
theorem dX6_fewestCovered_76 : decode cX6_fewestCovered 76 = .ok (.iload 6, 2) := by decide +kernel
theorem dX6_fewestCovered_78 : decode cX6_fewestCovered 78 = .ok (.invokestatic 95, 3) := by decide +kernel
theorem dX6_fewestCovered_81 : decode cX6_fewestCovered 81 = .ok (.istore 5, 2) := by decide +kernel
theorem dX6_fewestCovered_83 : decode cX6_fewestCovered 83 = .ok (.iinc 6 1, 3) := by decide +kernel
theorem dX6_fewestCovered_86 : decode cX6_fewestCovered 86 = .ok (.goto (-67), 3) := by decide +kernel
theorem dX6_fewestCovered_89 : decode cX6_fewestCovered 89 = .ok (.iload 4, 2) := by decide +kernel
theorem dX6_fewestCovered_91 : decode cX6_fewestCovered 91 = .ok (.ireturn, 1) := by decide +kernel
theorem dX6_due_0 : decode cX6_due 0 = .ok (.iload 4, 2) := by decide +kernel
theorem dX6_due_2 : decode cX6_due 2 = .ok (.i2l, 1) := by decide +kernel
theorem dX6_due_3 : decode cX6_due 3 = .ok (.lconst 1, 1) := by decide +kernel
theorem dX6_due_4 : decode cX6_due 4 = .ok (.ldc2_w 177, 3) := by decide +kernel
theorem dX6_due_7 : decode cX6_due 7 = .ok (.invokestatic 73, 3) := by decide +kernel
theorem dX6_due_10 : decode cX6_due 10 = .ok (.ifCond .eq 14, 3) := by decide +kernel
theorem dX6_due_13 : decode cX6_due 13 = .ok (.iload 5, 2) := by decide +kernel
theorem dX6_due_15 : decode cX6_due 15 = .ok (.i2l, 1) := by decide +kernel
theorem dX6_due_16 : decode cX6_due 16 = .ok (.lconst 0, 1) := by decide +kernel
theorem dX6_due_17 : decode cX6_due 17 = .ok (.lconst 1, 1) := by decide +kernel
theorem dX6_due_18 : decode cX6_due 18 = .ok (.invokestatic 73, 3) := by decide +kernel
theorem dX6_due_21 : decode cX6_due 21 = .ok (.ifCond .ne 6, 3) := by decide +kernel
theorem dX6_due_24 : decode cX6_due 24 = .ok (.bipush (-2), 2) := by decide +kernel
theorem dX6_due_26 : decode cX6_due 26 = .ok (.ireturn, 1) := by decide +kernel
theorem dX6_due_27 : decode cX6_due 27 = .ok (.aload_n 0, 1) := by decide +kernel
theorem dX6_due_28 : decode cX6_due 28 = .ok (.getfield 50, 3) := by decide +kernel
theorem dX6_due_31 : decode cX6_due 31 = .ok (.iload_n 1, 1) := by decide +kernel
theorem dX6_due_32 : decode cX6_due 32 = .ok (.iload 4, 2) := by decide +kernel
theorem dX6_due_34 : decode cX6_due 34 = .ok (.invokevirtual 179, 3) := by decide +kernel
theorem dX6_due_37 : decode cX6_due 37 = .ok (.ifCond .eq 16, 3) := by decide +kernel
theorem dX6_due_40 : decode cX6_due 40 = .ok (.aload_n 0, 1) := by decide +kernel
theorem dX6_due_41 : decode cX6_due 41 = .ok (.getfield 50, 3) := by decide +kernel
theorem dX6_due_44 : decode cX6_due 44 = .ok (.lload_n 2, 1) := by decide +kernel
theorem dX6_due_45 : decode cX6_due 45 = .ok (.iload 4, 2) := by decide +kernel
theorem dX6_due_47 : decode cX6_due 47 = .ok (.invokevirtual 182, 3) := by decide +kernel
theorem dX6_due_50 : decode cX6_due 50 = .ok (.ifCond .ne 6, 3) := by decide +kernel
theorem dX6_due_53 : decode cX6_due 53 = .ok (.bipush (-2), 2) := by decide +kernel
theorem dX6_due_55 : decode cX6_due 55 = .ok (.ireturn, 1) := by decide +kernel
theorem dX6_due_56 : decode cX6_due 56 = .ok (.aload_n 0, 1) := by decide +kernel
theorem dX6_due_57 : decode cX6_due 57 = .ok (.getfield 50, 3) := by decide +kernel
theorem dX6_due_60 : decode cX6_due 60 = .ok (.iload 4, 2) := by decide +kernel
theorem dX6_due_62 : decode cX6_due 62 = .ok (.invokevirtual 186, 3) := by decide +kernel
theorem dX6_due_65 : decode cX6_due 65 = .ok (.istore 6, 2) := by decide +kernel
theorem dX6_due_67 : decode cX6_due 67 = .ok (.iload 5, 2) := by decide +kernel
theorem dX6_due_69 : decode cX6_due 69 = .ok (.ifCond .ne 11, 3) := by decide +kernel
theorem dX6_due_72 : decode cX6_due 72 = .ok (.iload 6, 2) := by decide +kernel
theorem dX6_due_74 : decode cX6_due 74 = .ok (.invokestatic 95, 3) := by decide +kernel
theorem dX6_due_77 : decode cX6_due 77 = .ok (.goto 5, 3) := by decide +kernel
theorem dX6_due_80 : decode cX6_due 80 = .ok (.iload 6, 2) := by decide +kernel
theorem dX6_due_82 : decode cX6_due 82 = .ok (.ireturn, 1) := by decide +kernel
theorem dX6_nods_0 : decode cX6_nods 0 = .ok (.iload_n 1, 1) := by decide +kernel
theorem dX6_nods_1 : decode cX6_nods 1 = .ok (.i2l, 1) := by decide +kernel
theorem dX6_nods_2 : decode cX6_nods 2 = .ok (.lconst 1, 1) := by decide +kernel
theorem dX6_nods_3 : decode cX6_nods 3 = .ok (.ldc2_w 77, 3) := by decide +kernel
theorem dX6_nods_6 : decode cX6_nods 6 = .ok (.invokestatic 73, 3) := by decide +kernel
theorem dX6_nods_9 : decode cX6_nods 9 = .ok (.ifCond .eq 40, 3) := by decide +kernel
theorem dX6_nods_12 : decode cX6_nods 12 = .ok (.iload_n 2, 1) := by decide +kernel
theorem dX6_nods_13 : decode cX6_nods 13 = .ok (.i2l, 1) := by decide +kernel
theorem dX6_nods_14 : decode cX6_nods 14 = .ok (.lconst 1, 1) := by decide +kernel
theorem dX6_nods_15 : decode cX6_nods 15 = .ok (.ldc2_w 77, 3) := by decide +kernel
theorem dX6_nods_18 : decode cX6_nods 18 = .ok (.invokestatic 73, 3) := by decide +kernel
theorem dX6_nods_21 : decode cX6_nods 21 = .ok (.ifCond .eq 28, 3) := by decide +kernel
theorem dX6_nods_24 : decode cX6_nods 24 = .ok (.iload_n 3, 1) := by decide +kernel
theorem dX6_nods_25 : decode cX6_nods 25 = .ok (.i2l, 1) := by decide +kernel
theorem dX6_nods_26 : decode cX6_nods 26 = .ok (.lconst 1, 1) := by decide +kernel
theorem dX6_nods_27 : decode cX6_nods 27 = .ok (.ldc2_w 77, 3) := by decide +kernel
theorem dX6_nods_30 : decode cX6_nods 30 = .ok (.invokestatic 73, 3) := by decide +kernel
theorem dX6_nods_33 : decode cX6_nods 33 = .ok (.ifCond .eq 16, 3) := by decide +kernel
theorem dX6_nods_36 : decode cX6_nods 36 = .ok (.iload 4, 2) := by decide +kernel
theorem dX6_nods_38 : decode cX6_nods 38 = .ok (.i2l, 1) := by decide +kernel
theorem dX6_nods_39 : decode cX6_nods 39 = .ok (.lconst 1, 1) := by decide +kernel
theorem dX6_nods_40 : decode cX6_nods 40 = .ok (.ldc2_w 77, 3) := by decide +kernel
theorem dX6_nods_43 : decode cX6_nods 43 = .ok (.invokestatic 73, 3) := by decide +kernel
theorem dX6_nods_46 : decode cX6_nods 46 = .ok (.ifCond .ne 6, 3) := by decide +kernel
theorem dX6_nods_49 : decode cX6_nods 49 = .ok (.bipush (-2), 2) := by decide +kernel
theorem dX6_nods_51 : decode cX6_nods 51 = .ok (.ireturn, 1) := by decide +kernel
theorem dX6_nods_52 : decode cX6_nods 52 = .ok (.iload 5, 2) := by decide +kernel
theorem dX6_nods_54 : decode cX6_nods 54 = .ok (.i2l, 1) := by decide +kernel
theorem dX6_nods_55 : decode cX6_nods 55 = .ok (.lconst 0, 1) := by decide +kernel
theorem dX6_nods_56 : decode cX6_nods 56 = .ok (.ldc2_w 189, 3) := by decide +kernel
theorem dX6_nods_59 : decode cX6_nods 59 = .ok (.invokestatic 73, 3) := by decide +kernel
theorem dX6_nods_62 : decode cX6_nods 62 = .ok (.ifCond .eq 14, 3) := by decide +kernel
theorem dX6_nods_65 : decode cX6_nods 65 = .ok (.iload 6, 2) := by decide +kernel
theorem dX6_nods_67 : decode cX6_nods 67 = .ok (.i2l, 1) := by decide +kernel
theorem dX6_nods_68 : decode cX6_nods 68 = .ok (.lconst 0, 1) := by decide +kernel
theorem dX6_nods_69 : decode cX6_nods 69 = .ok (.lconst 1, 1) := by decide +kernel
theorem dX6_nods_70 : decode cX6_nods 70 = .ok (.invokestatic 73, 3) := by decide +kernel
theorem dX6_nods_73 : decode cX6_nods 73 = .ok (.ifCond .ne 6, 3) := by decide +kernel
theorem dX6_nods_76 : decode cX6_nods 76 = .ok (.bipush (-2), 2) := by decide +kernel
theorem dX6_nods_78 : decode cX6_nods 78 = .ok (.ireturn, 1) := by decide +kernel
theorem dX6_nods_79 : decode cX6_nods 79 = .ok (.iload_n 1, 1) := by decide +kernel
theorem dX6_nods_80 : decode cX6_nods 80 = .ok (.iload_n 2, 1) := by decide +kernel
theorem dX6_nods_81 : decode cX6_nods 81 = .ok (.iadd, 1) := by decide +kernel
theorem dX6_nods_82 : decode cX6_nods 82 = .ok (.iload_n 3, 1) := by decide +kernel
theorem dX6_nods_83 : decode cX6_nods 83 = .ok (.iload 4, 2) := by decide +kernel
theorem dX6_nods_85 : decode cX6_nods 85 = .ok (.iadd, 1) := by decide +kernel
theorem dX6_nods_86 : decode cX6_nods 86 = .ok (.imul, 1) := by decide +kernel
theorem dX6_nods_87 : decode cX6_nods 87 = .ok (.istore 7, 2) := by decide +kernel
theorem dX6_nods_89 : decode cX6_nods 89 = .ok (.iload 6, 2) := by decide +kernel
theorem dX6_nods_91 : decode cX6_nods 91 = .ok (.iconst 1, 1) := by decide +kernel
theorem dX6_nods_92 : decode cX6_nods 92 = .ok (.if_icmp .ne 14, 3) := by decide +kernel
theorem dX6_nods_95 : decode cX6_nods 95 = .ok (.iload_n 1, 1) := by decide +kernel
theorem dX6_nods_96 : decode cX6_nods 96 = .ok (.iload_n 2, 1) := by decide +kernel
theorem dX6_nods_97 : decode cX6_nods 97 = .ok (.iload_n 3, 1) := by decide +kernel
theorem dX6_nods_98 : decode cX6_nods 98 = .ok (.iload 4, 2) := by decide +kernel
theorem dX6_nods_100 : decode cX6_nods 100 = .ok (.iload 7, 2) := by decide +kernel
theorem dX6_nods_102 : decode cX6_nods 102 = .ok (.invokestatic 191, 3) := by decide +kernel
theorem dX6_nods_105 : decode cX6_nods 105 = .ok (.ireturn, 1) := by decide +kernel
theorem dX6_nods_106 : decode cX6_nods 106 = .ok (.iload_n 1, 1) := by decide +kernel
theorem dX6_nods_107 : decode cX6_nods 107 = .ok (.iload_n 2, 1) := by decide +kernel
theorem dX6_nods_108 : decode cX6_nods 108 = .ok (.iload_n 3, 1) := by decide +kernel
theorem dX6_nods_109 : decode cX6_nods 109 = .ok (.iload 4, 2) := by decide +kernel
theorem dX6_nods_111 : decode cX6_nods 111 = .ok (.iload 7, 2) := by decide +kernel
theorem dX6_nods_113 : decode cX6_nods 113 = .ok (.invokestatic 195, 3) := by decide +kernel
theorem dX6_nods_116 : decode cX6_nods 116 = .ok (.istore 8, 2) := by decide +kernel
theorem dX6_nods_118 : decode cX6_nods 118 = .ok (.iload 5, 2) := by decide +kernel
theorem dX6_nods_120 : decode cX6_nods 120 = .ok (.iload 7, 2) := by decide +kernel
theorem dX6_nods_122 : decode cX6_nods 122 = .ok (.idiv, 1) := by decide +kernel
theorem dX6_nods_123 : decode cX6_nods 123 = .ok (.iload 8, 2) := by decide +kernel
theorem dX6_nods_125 : decode cX6_nods 125 = .ok (.imul, 1) := by decide +kernel
theorem dX6_nods_126 : decode cX6_nods 126 = .ok (.iload_n 1, 1) := by decide +kernel
theorem dX6_nods_127 : decode cX6_nods 127 = .ok (.iload_n 2, 1) := by decide +kernel
theorem dX6_nods_128 : decode cX6_nods 128 = .ok (.iload_n 3, 1) := by decide +kernel
theorem dX6_nods_129 : decode cX6_nods 129 = .ok (.iload 4, 2) := by decide +kernel
theorem dX6_nods_131 : decode cX6_nods 131 = .ok (.iload 5, 2) := by decide +kernel
theorem dX6_nods_133 : decode cX6_nods 133 = .ok (.iload 7, 2) := by decide +kernel
theorem dX6_nods_135 : decode cX6_nods 135 = .ok (.irem, 1) := by decide +kernel
theorem dX6_nods_136 : decode cX6_nods 136 = .ok (.invokestatic 195, 3) := by decide +kernel
theorem dX6_nods_139 : decode cX6_nods 139 = .ok (.iadd, 1) := by decide +kernel
theorem dX6_nods_140 : decode cX6_nods 140 = .ok (.ireturn, 1) := by decide +kernel
theorem dX6_nightsAsleep_0 : decode cX6_nightsAsleep 0 = .ok (.iconst 0, 1) := by decide +kernel
theorem dX6_nightsAsleep_1 : decode cX6_nightsAsleep 1 = .ok (.istore 5, 2) := by decide +kernel
theorem dX6_nightsAsleep_3 : decode cX6_nightsAsleep 3 = .ok (.iconst 1, 1) := by decide +kernel
theorem dX6_nightsAsleep_4 : decode cX6_nightsAsleep 4 = .ok (.istore 6, 2) := by decide +kernel
theorem dX6_nightsAsleep_6 : decode cX6_nightsAsleep 6 = .ok (.iload 6, 2) := by decide +kernel
theorem dX6_nightsAsleep_8 : decode cX6_nightsAsleep 8 = .ok (.iload 4, 2) := by decide +kernel
theorem dX6_nightsAsleep_10 : decode cX6_nightsAsleep 10 = .ok (.if_icmp .gt 32, 3) := by decide +kernel
theorem dX6_nightsAsleep_13 : decode cX6_nightsAsleep 13 = .ok (.iload_n 0, 1) := by decide +kernel
theorem dX6_nightsAsleep_14 : decode cX6_nightsAsleep 14 = .ok (.iload_n 1, 1) := by decide +kernel
theorem dX6_nightsAsleep_15 : decode cX6_nightsAsleep 15 = .ok (.iload 6, 2) := by decide +kernel
theorem dX6_nightsAsleep_17 : decode cX6_nightsAsleep 17 = .ok (.invokestatic 198, 3) := by decide +kernel
theorem dX6_nightsAsleep_20 : decode cX6_nightsAsleep 20 = .ok (.ifCond .eq 16, 3) := by decide +kernel
theorem dX6_nightsAsleep_23 : decode cX6_nightsAsleep 23 = .ok (.iload_n 2, 1) := by decide +kernel
theorem dX6_nightsAsleep_24 : decode cX6_nightsAsleep 24 = .ok (.iload_n 3, 1) := by decide +kernel
theorem dX6_nightsAsleep_25 : decode cX6_nightsAsleep 25 = .ok (.iload 6, 2) := by decide +kernel
theorem dX6_nightsAsleep_27 : decode cX6_nightsAsleep 27 = .ok (.invokestatic 198, 3) := by decide +kernel
theorem dX6_nightsAsleep_30 : decode cX6_nightsAsleep 30 = .ok (.ifCond .eq 6, 3) := by decide +kernel
theorem dX6_nightsAsleep_33 : decode cX6_nightsAsleep 33 = .ok (.iinc 5 1, 3) := by decide +kernel
theorem dX6_nightsAsleep_36 : decode cX6_nightsAsleep 36 = .ok (.iinc 6 1, 3) := by decide +kernel
theorem dX6_nightsAsleep_39 : decode cX6_nightsAsleep 39 = .ok (.goto (-33), 3) := by decide +kernel
theorem dX6_nightsAsleep_42 : decode cX6_nightsAsleep 42 = .ok (.iload 5, 2) := by decide +kernel
theorem dX6_nightsAsleep_44 : decode cX6_nightsAsleep 44 = .ok (.ireturn, 1) := by decide +kernel
theorem dX6_firstNightAsleep_0 : decode cX6_firstNightAsleep 0 = .ok (.iconst 1, 1) := by decide +kernel
theorem dX6_firstNightAsleep_1 : decode cX6_firstNightAsleep 1 = .ok (.istore 5, 2) := by decide +kernel
theorem dX6_firstNightAsleep_3 : decode cX6_firstNightAsleep 3 = .ok (.iload 5, 2) := by decide +kernel
theorem dX6_firstNightAsleep_5 : decode cX6_firstNightAsleep 5 = .ok (.iload 4, 2) := by decide +kernel
theorem dX6_firstNightAsleep_7 : decode cX6_firstNightAsleep 7 = .ok (.if_icmp .gt 32, 3) := by decide +kernel
theorem dX6_firstNightAsleep_10 : decode cX6_firstNightAsleep 10 = .ok (.iload_n 0, 1) := by decide +kernel
theorem dX6_firstNightAsleep_11 : decode cX6_firstNightAsleep 11 = .ok (.iload_n 1, 1) := by decide +kernel
theorem dX6_firstNightAsleep_12 : decode cX6_firstNightAsleep 12 = .ok (.iload 5, 2) := by decide +kernel
theorem dX6_firstNightAsleep_14 : decode cX6_firstNightAsleep 14 = .ok (.invokestatic 198, 3) := by decide +kernel
theorem dX6_firstNightAsleep_17 : decode cX6_firstNightAsleep 17 = .ok (.ifCond .eq 16, 3) := by decide +kernel
theorem dX6_firstNightAsleep_20 : decode cX6_firstNightAsleep 20 = .ok (.iload_n 2, 1) := by decide +kernel
theorem dX6_firstNightAsleep_21 : decode cX6_firstNightAsleep 21 = .ok (.iload_n 3, 1) := by decide +kernel
theorem dX6_firstNightAsleep_22 : decode cX6_firstNightAsleep 22 = .ok (.iload 5, 2) := by decide +kernel
theorem dX6_firstNightAsleep_24 : decode cX6_firstNightAsleep 24 = .ok (.invokestatic 198, 3) := by decide +kernel
theorem dX6_firstNightAsleep_27 : decode cX6_firstNightAsleep 27 = .ok (.ifCond .eq 6, 3) := by decide +kernel
theorem dX6_firstNightAsleep_30 : decode cX6_firstNightAsleep 30 = .ok (.iload 5, 2) := by decide +kernel
theorem dX6_firstNightAsleep_32 : decode cX6_firstNightAsleep 32 = .ok (.ireturn, 1) := by decide +kernel
theorem dX6_firstNightAsleep_33 : decode cX6_firstNightAsleep 33 = .ok (.iinc 5 1, 3) := by decide +kernel
theorem dX6_firstNightAsleep_36 : decode cX6_firstNightAsleep 36 = .ok (.goto (-33), 3) := by decide +kernel
theorem dX6_firstNightAsleep_39 : decode cX6_firstNightAsleep 39 = .ok (.bipush (-6), 2) := by decide +kernel
theorem dX6_firstNightAsleep_41 : decode cX6_firstNightAsleep 41 = .ok (.ireturn, 1) := by decide +kernel
theorem dX6_isAsleep_0 : decode cX6_isAsleep 0 = .ok (.iload_n 0, 1) := by decide +kernel
theorem dX6_isAsleep_1 : decode cX6_isAsleep 1 = .ok (.iload_n 1, 1) := by decide +kernel
theorem dX6_isAsleep_2 : decode cX6_isAsleep 2 = .ok (.iadd, 1) := by decide +kernel
theorem dX6_isAsleep_3 : decode cX6_isAsleep 3 = .ok (.istore_n 3, 1) := by decide +kernel
theorem dX6_isAsleep_4 : decode cX6_isAsleep 4 = .ok (.iload_n 3, 1) := by decide +kernel
theorem dX6_isAsleep_5 : decode cX6_isAsleep 5 = .ok (.ifCond .le 16, 3) := by decide +kernel
theorem dX6_isAsleep_8 : decode cX6_isAsleep 8 = .ok (.iload_n 2, 1) := by decide +kernel
theorem dX6_isAsleep_9 : decode cX6_isAsleep 9 = .ok (.iconst 1, 1) := by decide +kernel
theorem dX6_isAsleep_10 : decode cX6_isAsleep 10 = .ok (.isub, 1) := by decide +kernel
theorem dX6_isAsleep_11 : decode cX6_isAsleep 11 = .ok (.iload_n 3, 1) := by decide +kernel
theorem dX6_isAsleep_12 : decode cX6_isAsleep 12 = .ok (.irem, 1) := by decide +kernel
theorem dX6_isAsleep_13 : decode cX6_isAsleep 13 = .ok (.iload_n 0, 1) := by decide +kernel
theorem dX6_isAsleep_14 : decode cX6_isAsleep 14 = .ok (.if_icmp .lt 7, 3) := by decide +kernel
theorem dX6_isAsleep_17 : decode cX6_isAsleep 17 = .ok (.iconst 1, 1) := by decide +kernel
theorem dX6_isAsleep_18 : decode cX6_isAsleep 18 = .ok (.goto 4, 3) := by decide +kernel
theorem dX6_isAsleep_21 : decode cX6_isAsleep 21 = .ok (.iconst 0, 1) := by decide +kernel
theorem dX6_isAsleep_22 : decode cX6_isAsleep 22 = .ok (.ireturn, 1) := by decide +kernel
theorem dX6_seen_0 : decode cX6_seen 0 = .ok (.iload_n 1, 1) := by decide +kernel
theorem dX6_seen_1 : decode cX6_seen 1 = .ok (.i2l, 1) := by decide +kernel
theorem dX6_seen_2 : decode cX6_seen 2 = .ok (.lconst 0, 1) := by decide +kernel
theorem dX6_seen_3 : decode cX6_seen 3 = .ok (.ldc2_w 202, 3) := by decide +kernel
theorem dX6_seen_6 : decode cX6_seen 6 = .ok (.invokestatic 73, 3) := by decide +kernel
theorem dX6_seen_9 : decode cX6_seen 9 = .ok (.ifCond .eq 15, 3) := by decide +kernel
theorem dX6_seen_12 : decode cX6_seen 12 = .ok (.iload_n 2, 1) := by decide +kernel
theorem dX6_seen_13 : decode cX6_seen 13 = .ok (.i2l, 1) := by decide +kernel
theorem dX6_seen_14 : decode cX6_seen 14 = .ok (.lconst 0, 1) := by decide +kernel
theorem dX6_seen_15 : decode cX6_seen 15 = .ok (.ldc2_w 90, 3) := by decide +kernel
theorem dX6_seen_18 : decode cX6_seen 18 = .ok (.invokestatic 73, 3) := by decide +kernel
theorem dX6_seen_21 : decode cX6_seen 21 = .ok (.ifCond .ne 6, 3) := by decide +kernel
theorem dX6_seen_24 : decode cX6_seen 24 = .ok (.bipush (-2), 2) := by decide +kernel
theorem dX6_seen_26 : decode cX6_seen 26 = .ok (.ireturn, 1) := by decide +kernel
theorem dX6_seen_27 : decode cX6_seen 27 = .ok (.aload_n 0, 1) := by decide +kernel
theorem dX6_seen_28 : decode cX6_seen 28 = .ok (.getfield 26, 3) := by decide +kernel
theorem dX6_seen_31 : decode cX6_seen 31 = .ok (.iload_n 1, 1) := by decide +kernel
theorem dX6_seen_32 : decode cX6_seen 32 = .ok (.iload_n 2, 1) := by decide +kernel
theorem dX6_seen_33 : decode cX6_seen 33 = .ok (.invokevirtual 204, 3) := by decide +kernel
theorem dX6_seen_36 : decode cX6_seen 36 = .ok (.ifCond .eq 13, 3) := by decide +kernel
theorem dX6_seen_39 : decode cX6_seen 39 = .ok (.aload_n 0, 1) := by decide +kernel
theorem dX6_seen_40 : decode cX6_seen 40 = .ok (.getfield 26, 3) := by decide +kernel
theorem dX6_seen_43 : decode cX6_seen 43 = .ok (.getfield 206, 3) := by decide +kernel
theorem dX6_seen_46 : decode cX6_seen 46 = .ok (.goto 5, 3) := by decide +kernel
theorem dX6_seen_49 : decode cX6_seen 49 = .ok (.bipush (-4), 2) := by decide +kernel
theorem dX6_seen_51 : decode cX6_seen 51 = .ok (.ireturn, 1) := by decide +kernel
theorem dX6_forget_0 : decode cX6_forget 0 = .ok (.aload_n 0, 1) := by decide +kernel
theorem dX6_forget_1 : decode cX6_forget 1 = .ok (.getfield 26, 3) := by decide +kernel
theorem dX6_forget_4 : decode cX6_forget 4 = .ok (.getfield 206, 3) := by decide +kernel
theorem dX6_forget_7 : decode cX6_forget 7 = .ok (.istore_n 1, 1) := by decide +kernel
theorem dX6_forget_8 : decode cX6_forget 8 = .ok (.aload_n 0, 1) := by decide +kernel
theorem dX6_forget_9 : decode cX6_forget 9 = .ok (.getfield 26, 3) := by decide +kernel
theorem dX6_forget_12 : decode cX6_forget 12 = .ok (.iconst 0, 1) := by decide +kernel
theorem dX6_forget_13 : decode cX6_forget 13 = .ok (.putfield 206, 3) := by decide +kernel
theorem dX6_forget_16 : decode cX6_forget 16 = .ok (.iload_n 1, 1) := by decide +kernel
theorem dX6_forget_17 : decode cX6_forget 17 = .ok (.ireturn, 1) := by decide +kernel
theorem dX6_matter_0 : decode cX6_matter 0 = .ok (.aload_n 0, 1) := by decide +kernel
theorem dX6_matter_1 : decode cX6_matter 1 = .ok (.getfield 26, 3) := by decide +kernel
theorem dX6_matter_4 : decode cX6_matter 4 = .ok (.aload_n 0, 1) := by decide +kernel
theorem dX6_matter_5 : decode cX6_matter 5 = .ok (.getfield 54, 3) := by decide +kernel
theorem dX6_matter_8 : decode cX6_matter 8 = .ok (.invokevirtual 207, 3) := by decide +kernel
theorem dX6_matter_11 : decode cX6_matter 11 = .ok (.istore_n 2, 1) := by decide +kernel
theorem dX6_matter_12 : decode cX6_matter 12 = .ok (.iload_n 1, 1) := by decide +kernel
theorem dX6_matter_13 : decode cX6_matter 13 = .ok (.iconst (-1), 1) := by decide +kernel
theorem dX6_matter_14 : decode cX6_matter 14 = .ok (.if_icmp .ne 5, 3) := by decide +kernel
theorem dX6_matter_17 : decode cX6_matter 17 = .ok (.iload_n 2, 1) := by decide +kernel
theorem dX6_matter_18 : decode cX6_matter 18 = .ok (.ireturn, 1) := by decide +kernel
theorem dX6_matter_19 : decode cX6_matter 19 = .ok (.iload_n 1, 1) := by decide +kernel
theorem dX6_matter_20 : decode cX6_matter 20 = .ok (.ifCond .lt 17, 3) := by decide +kernel
theorem dX6_matter_23 : decode cX6_matter 23 = .ok (.iload_n 1, 1) := by decide +kernel
theorem dX6_matter_24 : decode cX6_matter 24 = .ok (.iload_n 2, 1) := by decide +kernel
theorem dX6_matter_25 : decode cX6_matter 25 = .ok (.if_icmp .ge 12, 3) := by decide +kernel
theorem dX6_matter_28 : decode cX6_matter 28 = .ok (.aload_n 0, 1) := by decide +kernel
theorem dX6_matter_29 : decode cX6_matter 29 = .ok (.getfield 54, 3) := by decide +kernel
theorem dX6_matter_32 : decode cX6_matter 32 = .ok (.iload_n 1, 1) := by decide +kernel
theorem dX6_matter_33 : decode cX6_matter 33 = .ok (.iaload, 1) := by decide +kernel
theorem dX6_matter_34 : decode cX6_matter 34 = .ok (.goto 5, 3) := by decide +kernel
theorem dX6_matter_37 : decode cX6_matter 37 = .ok (.bipush (-6), 2) := by decide +kernel
theorem dX6_matter_39 : decode cX6_matter 39 = .ok (.ireturn, 1) := by decide +kernel
theorem dX6_ask_0 : decode cX6_ask 0 = .ok (.iload_n 1, 1) := by decide +kernel
theorem dX6_ask_1 : decode cX6_ask 1 = .ok (.i2l, 1) := by decide +kernel
theorem dX6_ask_2 : decode cX6_ask 2 = .ok (.lconst 0, 1) := by decide +kernel
theorem dX6_ask_3 : decode cX6_ask 3 = .ok (.lconst 1, 1) := by decide +kernel
theorem dX6_ask_4 : decode cX6_ask 4 = .ok (.invokestatic 73, 3) := by decide +kernel
theorem dX6_ask_7 : decode cX6_ask 7 = .ok (.ifCond .ne 6, 3) := by decide +kernel
theorem dX6_ask_10 : decode cX6_ask 10 = .ok (.bipush (-2), 2) := by decide +kernel
theorem dX6_ask_12 : decode cX6_ask 12 = .ok (.ireturn, 1) := by decide +kernel
theorem dX6_ask_13 : decode cX6_ask 13 = .ok (.aload_n 0, 1) := by decide +kernel
theorem dX6_ask_14 : decode cX6_ask 14 = .ok (.getfield 26, 3) := by decide +kernel
theorem dX6_ask_17 : decode cX6_ask 17 = .ok (.aload_n 0, 1) := by decide +kernel
theorem dX6_ask_18 : decode cX6_ask 18 = .ok (.getfield 54, 3) := by decide +kernel
theorem dX6_ask_21 : decode cX6_ask 21 = .ok (.invokevirtual 207, 3) := by decide +kernel
theorem dX6_ask_24 : decode cX6_ask 24 = .ok (.istore_n 2, 1) := by decide +kernel
theorem dX6_ask_25 : decode cX6_ask 25 = .ok (.iload_n 2, 1) := by decide +kernel
theorem dX6_ask_26 : decode cX6_ask 26 = .ok (.ifCond .ne 6, 3) := by decide +kernel
theorem dX6_ask_29 : decode cX6_ask 29 = .ok (.bipush (-6), 2) := by decide +kernel
theorem dX6_ask_31 : decode cX6_ask 31 = .ok (.ireturn, 1) := by decide +kernel
theorem dX6_ask_32 : decode cX6_ask 32 = .ok (.bipush (-6), 2) := by decide +kernel
theorem dX6_ask_34 : decode cX6_ask 34 = .ok (.istore_n 3, 1) := by decide +kernel
theorem dX6_ask_35 : decode cX6_ask 35 = .ok (.bipush 50, 2) := by decide +kernel
theorem dX6_ask_37 : decode cX6_ask 37 = .ok (.istore 4, 2) := by decide +kernel
theorem dX6_ask_39 : decode cX6_ask 39 = .ok (.iconst 0, 1) := by decide +kernel
theorem dX6_ask_40 : decode cX6_ask 40 = .ok (.istore 5, 2) := by decide +kernel
theorem dX6_ask_42 : decode cX6_ask 42 = .ok (.iload 5, 2) := by decide +kernel
theorem dX6_ask_44 : decode cX6_ask 44 = .ok (.bipush 20, 2) := by decide +kernel
theorem dX6_ask_46 : decode cX6_ask 46 = .ok (.if_icmp .gt 32, 3) := by decide +kernel
theorem dX6_ask_49 : decode cX6_ask 49 = .ok (.aload_n 0, 1) := by decide +kernel
theorem dX6_ask_50 : decode cX6_ask 50 = .ok (.iload 5, 2) := by decide +kernel
theorem dX6_ask_52 : decode cX6_ask 52 = .ok (.iload_n 2, 1) := by decide +kernel
theorem dX6_ask_53 : decode cX6_ask 53 = .ok (.invokevirtual 211, 3) := by decide +kernel
theorem dX6_ask_56 : decode cX6_ask 56 = .ok (.istore 6, 2) := by decide +kernel
theorem dX6_ask_58 : decode cX6_ask 58 = .ok (.iload 6, 2) := by decide +kernel
theorem dX6_ask_60 : decode cX6_ask 60 = .ok (.iload 4, 2) := by decide +kernel
theorem dX6_ask_62 : decode cX6_ask 62 = .ok (.if_icmp .ge 10, 3) := by decide +kernel
theorem dX6_ask_65 : decode cX6_ask 65 = .ok (.iload 5, 2) := by decide +kernel
theorem dX6_ask_67 : decode cX6_ask 67 = .ok (.istore_n 3, 1) := by decide +kernel
theorem dX6_ask_68 : decode cX6_ask 68 = .ok (.iload 6, 2) := by decide +kernel
theorem dX6_ask_70 : decode cX6_ask 70 = .ok (.istore 4, 2) := by decide +kernel
theorem dX6_ask_72 : decode cX6_ask 72 = .ok (.iinc 5 1, 3) := by decide +kernel
theorem dX6_ask_75 : decode cX6_ask 75 = .ok (.goto (-33), 3) := by decide +kernel
theorem dX6_ask_78 : decode cX6_ask 78 = .ok (.iload_n 1, 1) := by decide +kernel
theorem dX6_ask_79 : decode cX6_ask 79 = .ok (.ifCond .ne 7, 3) := by decide +kernel
theorem dX6_ask_82 : decode cX6_ask 82 = .ok (.iload_n 3, 1) := by decide +kernel
theorem dX6_ask_83 : decode cX6_ask 83 = .ok (.goto 5, 3) := by decide +kernel
theorem dX6_ask_86 : decode cX6_ask 86 = .ok (.iload 4, 2) := by decide +kernel
theorem dX6_ask_88 : decode cX6_ask 88 = .ok (.ireturn, 1) := by decide +kernel
theorem dX6_mostLeft_0 : decode cX6_mostLeft 0 = .ok (.iconst 0, 1) := by decide +kernel
theorem dX6_mostLeft_1 : decode cX6_mostLeft 1 = .ok (.istore_n 3, 1) := by decide +kernel
theorem dX6_mostLeft_2 : decode cX6_mostLeft 2 = .ok (.iconst 0, 1) := by decide +kernel
theorem dX6_mostLeft_3 : decode cX6_mostLeft 3 = .ok (.istore 4, 2) := by decide +kernel
theorem dX6_mostLeft_5 : decode cX6_mostLeft 5 = .ok (.iload 4, 2) := by decide +kernel
theorem dX6_mostLeft_7 : decode cX6_mostLeft 7 = .ok (.bipush 7, 2) := by decide +kernel
theorem dX6_mostLeft_9 : decode cX6_mostLeft 9 = .ok (.if_icmp .ge 22, 3) := by decide +kernel
theorem dX6_mostLeft_12 : decode cX6_mostLeft 12 = .ok (.iload_n 3, 1) := by decide +kernel
theorem dX6_mostLeft_13 : decode cX6_mostLeft 13 = .ok (.aload_n 0, 1) := by decide +kernel
theorem dX6_mostLeft_14 : decode cX6_mostLeft 14 = .ok (.iload_n 1, 1) := by decide +kernel
theorem dX6_mostLeft_15 : decode cX6_mostLeft 15 = .ok (.iload 4, 2) := by decide +kernel
theorem dX6_mostLeft_17 : decode cX6_mostLeft 17 = .ok (.iload_n 2, 1) := by decide +kernel
theorem dX6_mostLeft_18 : decode cX6_mostLeft 18 = .ok (.invokevirtual 214, 3) := by decide +kernel
theorem dX6_mostLeft_21 : decode cX6_mostLeft 21 = .ok (.invokestatic 218, 3) := by decide +kernel
theorem dX6_mostLeft_24 : decode cX6_mostLeft 24 = .ok (.istore_n 3, 1) := by decide +kernel
theorem dX6_mostLeft_25 : decode cX6_mostLeft 25 = .ok (.iinc 4 1, 3) := by decide +kernel
theorem dX6_mostLeft_28 : decode cX6_mostLeft 28 = .ok (.goto (-23), 3) := by decide +kernel
theorem dX6_mostLeft_31 : decode cX6_mostLeft 31 = .ok (.iload_n 3, 1) := by decide +kernel
theorem dX6_mostLeft_32 : decode cX6_mostLeft 32 = .ok (.ireturn, 1) := by decide +kernel
theorem dX6_countLeft_0 : decode cX6_countLeft 0 = .ok (.iconst 0, 1) := by decide +kernel
theorem dX6_countLeft_1 : decode cX6_countLeft 1 = .ok (.istore 4, 2) := by decide +kernel
theorem dX6_countLeft_3 : decode cX6_countLeft 3 = .ok (.iconst 0, 1) := by decide +kernel
theorem dX6_countLeft_4 : decode cX6_countLeft 4 = .ok (.istore 5, 2) := by decide +kernel
theorem dX6_countLeft_6 : decode cX6_countLeft 6 = .ok (.iload 5, 2) := by decide +kernel
theorem dX6_countLeft_8 : decode cX6_countLeft 8 = .ok (.iload_n 3, 1) := by decide +kernel
theorem dX6_countLeft_9 : decode cX6_countLeft 9 = .ok (.if_icmp .ge 47, 3) := by decide +kernel
theorem dX6_countLeft_12 : decode cX6_countLeft 12 = .ok (.iload 5, 2) := by decide +kernel
theorem dX6_countLeft_14 : decode cX6_countLeft 14 = .ok (.bipush 49, 2) := by decide +kernel
theorem dX6_countLeft_16 : decode cX6_countLeft 16 = .ok (.if_icmp .ge 40, 3) := by decide +kernel
theorem dX6_countLeft_19 : decode cX6_countLeft 19 = .ok (.aload_n 0, 1) := by decide +kernel
theorem dX6_countLeft_20 : decode cX6_countLeft 20 = .ok (.getfield 54, 3) := by decide +kernel
theorem dX6_countLeft_23 : decode cX6_countLeft 23 = .ok (.iload 5, 2) := by decide +kernel
theorem dX6_countLeft_25 : decode cX6_countLeft 25 = .ok (.iaload, 1) := by decide +kernel
theorem dX6_countLeft_26 : decode cX6_countLeft 26 = .ok (.bipush 10, 2) := by decide +kernel
theorem dX6_countLeft_28 : decode cX6_countLeft 28 = .ok (.idiv, 1) := by decide +kernel
theorem dX6_countLeft_29 : decode cX6_countLeft 29 = .ok (.aload_n 0, 1) := by decide +kernel
theorem dX6_countLeft_30 : decode cX6_countLeft 30 = .ok (.getfield 54, 3) := by decide +kernel
theorem dX6_countLeft_33 : decode cX6_countLeft 33 = .ok (.iload 5, 2) := by decide +kernel
theorem dX6_countLeft_35 : decode cX6_countLeft 35 = .ok (.iaload, 1) := by decide +kernel
theorem dX6_countLeft_36 : decode cX6_countLeft 36 = .ok (.bipush 10, 2) := by decide +kernel
theorem dX6_countLeft_38 : decode cX6_countLeft 38 = .ok (.irem, 1) := by decide +kernel
theorem dX6_countLeft_39 : decode cX6_countLeft 39 = .ok (.iload_n 1, 1) := by decide +kernel
theorem dX6_countLeft_40 : decode cX6_countLeft 40 = .ok (.invokestatic 223, 3) := by decide +kernel
theorem dX6_countLeft_43 : decode cX6_countLeft 43 = .ok (.iload_n 2, 1) := by decide +kernel
theorem dX6_countLeft_44 : decode cX6_countLeft 44 = .ok (.if_icmp .ne 6, 3) := by decide +kernel
theorem dX6_countLeft_47 : decode cX6_countLeft 47 = .ok (.iinc 4 1, 3) := by decide +kernel
theorem dX6_countLeft_50 : decode cX6_countLeft 50 = .ok (.iinc 5 1, 3) := by decide +kernel
theorem dX6_countLeft_53 : decode cX6_countLeft 53 = .ok (.goto (-47), 3) := by decide +kernel
theorem dX6_countLeft_56 : decode cX6_countLeft 56 = .ok (.iload 4, 2) := by decide +kernel
theorem dX6_countLeft_58 : decode cX6_countLeft 58 = .ok (.ireturn, 1) := by decide +kernel
theorem dX6_colourOf_0 : decode cX6_colourOf 0 = .ok (.iload_n 0, 1) := by decide +kernel
theorem dX6_colourOf_1 : decode cX6_colourOf 1 = .ok (.iload_n 1, 1) := by decide +kernel
theorem dX6_colourOf_2 : decode cX6_colourOf 2 = .ok (.iload_n 2, 1) := by decide +kernel
theorem dX6_colourOf_3 : decode cX6_colourOf 3 = .ok (.imul, 1) := by decide +kernel
theorem dX6_colourOf_4 : decode cX6_colourOf 4 = .ok (.iadd, 1) := by decide +kernel
theorem dX6_colourOf_5 : decode cX6_colourOf 5 = .ok (.bipush 7, 2) := by decide +kernel
theorem dX6_colourOf_7 : decode cX6_colourOf 7 = .ok (.irem, 1) := by decide +kernel
theorem dX6_colourOf_8 : decode cX6_colourOf 8 = .ok (.ireturn, 1) := by decide +kernel
theorem dX6_takes_0 : decode cX6_takes 0 = .ok (.iload_n 1, 1) := by decide +kernel
theorem dX6_takes_1 : decode cX6_takes 1 = .ok (.i2l, 1) := by decide +kernel
theorem dX6_takes_2 : decode cX6_takes 2 = .ok (.lconst 0, 1) := by decide +kernel
theorem dX6_takes_3 : decode cX6_takes 3 = .ok (.ldc2_w 226, 3) := by decide +kernel
theorem dX6_takes_6 : decode cX6_takes 6 = .ok (.invokestatic 73, 3) := by decide +kernel
theorem dX6_takes_9 : decode cX6_takes 9 = .ok (.ifCond .eq 13, 3) := by decide +kernel
theorem dX6_takes_12 : decode cX6_takes 12 = .ok (.iload_n 2, 1) := by decide +kernel
theorem dX6_takes_13 : decode cX6_takes 13 = .ok (.i2l, 1) := by decide +kernel
theorem dX6_takes_14 : decode cX6_takes 14 = .ok (.lconst 0, 1) := by decide +kernel
theorem dX6_takes_15 : decode cX6_takes 15 = .ok (.lconst 1, 1) := by decide +kernel
theorem dX6_takes_16 : decode cX6_takes 16 = .ok (.invokestatic 73, 3) := by decide +kernel
theorem dX6_takes_19 : decode cX6_takes 19 = .ok (.ifCond .ne 6, 3) := by decide +kernel
theorem dX6_takes_22 : decode cX6_takes 22 = .ok (.bipush (-2), 2) := by decide +kernel
theorem dX6_takes_24 : decode cX6_takes 24 = .ok (.ireturn, 1) := by decide +kernel
theorem dX6_takes_25 : decode cX6_takes 25 = .ok (.aload_n 0, 1) := by decide +kernel
theorem dX6_takes_26 : decode cX6_takes 26 = .ok (.iload_n 1, 1) := by decide +kernel
theorem dX6_takes_27 : decode cX6_takes 27 = .ok (.invokevirtual 228, 3) := by decide +kernel
theorem dX6_takes_30 : decode cX6_takes 30 = .ok (.aload_n 0, 1) := by decide +kernel
theorem dX6_takes_31 : decode cX6_takes 31 = .ok (.iload_n 1, 1) := by decide +kernel
theorem dX6_takes_32 : decode cX6_takes 32 = .ok (.invokevirtual 232, 3) := by decide +kernel
theorem dX6_takes_35 : decode cX6_takes 35 = .ok (.istore_n 3, 1) := by decide +kernel
theorem dX6_takes_36 : decode cX6_takes 36 = .ok (.iload_n 2, 1) := by decide +kernel
theorem dX6_takes_37 : decode cX6_takes 37 = .ok (.iconst 1, 1) := by decide +kernel
theorem dX6_takes_38 : decode cX6_takes 38 = .ok (.if_icmp .ne 5, 3) := by decide +kernel
theorem dX6_takes_41 : decode cX6_takes 41 = .ok (.iload_n 3, 1) := by decide +kernel
theorem dX6_takes_42 : decode cX6_takes 42 = .ok (.ireturn, 1) := by decide +kernel
theorem dX6_takes_43 : decode cX6_takes 43 = .ok (.iload_n 3, 1) := by decide +kernel
theorem dX6_takes_44 : decode cX6_takes 44 = .ok (.bipush (-6), 2) := by decide +kernel
theorem dX6_takes_46 : decode cX6_takes 46 = .ok (.if_icmp .ne 7, 3) := by decide +kernel
theorem dX6_takes_49 : decode cX6_takes 49 = .ok (.iconst 0, 1) := by decide +kernel
theorem dX6_takes_50 : decode cX6_takes 50 = .ok (.goto 4, 3) := by decide +kernel
theorem dX6_takes_53 : decode cX6_takes 53 = .ok (.iconst 1, 1) := by decide +kernel
theorem dX6_takes_54 : decode cX6_takes 54 = .ok (.ireturn, 1) := by decide +kernel
theorem dX6_winningTake_0 : decode cX6_winningTake 0 = .ok (.iconst 1, 1) := by decide +kernel
theorem dX6_winningTake_1 : decode cX6_winningTake 1 = .ok (.istore_n 2, 1) := by decide +kernel
theorem dX6_winningTake_2 : decode cX6_winningTake 2 = .ok (.iload_n 2, 1) := by decide +kernel
theorem dX6_winningTake_3 : decode cX6_winningTake 3 = .ok (.iconst 2, 1) := by decide +kernel
theorem dX6_winningTake_4 : decode cX6_winningTake 4 = .ok (.if_icmp .gt 50, 3) := by decide +kernel
theorem dX6_winningTake_7 : decode cX6_winningTake 7 = .ok (.iconst 0, 1) := by decide +kernel
theorem dX6_winningTake_8 : decode cX6_winningTake 8 = .ok (.istore_n 3, 1) := by decide +kernel
theorem dX6_winningTake_9 : decode cX6_winningTake 9 = .ok (.iload_n 3, 1) := by decide +kernel
theorem dX6_winningTake_10 : decode cX6_winningTake 10 = .ok (.iload_n 2, 1) := by decide +kernel
theorem dX6_winningTake_11 : decode cX6_winningTake 11 = .ok (.iadd, 1) := by decide +kernel
theorem dX6_winningTake_12 : decode cX6_winningTake 12 = .ok (.iload_n 1, 1) := by decide +kernel
theorem dX6_winningTake_13 : decode cX6_winningTake 13 = .ok (.if_icmp .gt 35, 3) := by decide +kernel
theorem dX6_winningTake_16 : decode cX6_winningTake 16 = .ok (.aload_n 0, 1) := by decide +kernel
theorem dX6_winningTake_17 : decode cX6_winningTake 17 = .ok (.getfield 58, 3) := by decide +kernel
theorem dX6_winningTake_20 : decode cX6_winningTake 20 = .ok (.iload_n 3, 1) := by decide +kernel
theorem dX6_winningTake_21 : decode cX6_winningTake 21 = .ok (.iaload, 1) := by decide +kernel
theorem dX6_winningTake_22 : decode cX6_winningTake 22 = .ok (.aload_n 0, 1) := by decide +kernel
theorem dX6_winningTake_23 : decode cX6_winningTake 23 = .ok (.getfield 58, 3) := by decide +kernel
theorem dX6_winningTake_26 : decode cX6_winningTake 26 = .ok (.iload_n 1, 1) := by decide +kernel
theorem dX6_winningTake_27 : decode cX6_winningTake 27 = .ok (.iload_n 2, 1) := by decide +kernel
theorem dX6_winningTake_28 : decode cX6_winningTake 28 = .ok (.isub, 1) := by decide +kernel
theorem dX6_winningTake_29 : decode cX6_winningTake 29 = .ok (.iload_n 3, 1) := by decide +kernel
theorem dX6_winningTake_30 : decode cX6_winningTake 30 = .ok (.isub, 1) := by decide +kernel
theorem dX6_winningTake_31 : decode cX6_winningTake 31 = .ok (.iaload, 1) := by decide +kernel
theorem dX6_winningTake_32 : decode cX6_winningTake 32 = .ok (.if_icmp .ne 10, 3) := by decide +kernel
theorem dX6_winningTake_35 : decode cX6_winningTake 35 = .ok (.bipush 100, 2) := by decide +kernel
theorem dX6_winningTake_37 : decode cX6_winningTake 37 = .ok (.iload_n 2, 1) := by decide +kernel
theorem dX6_winningTake_38 : decode cX6_winningTake 38 = .ok (.imul, 1) := by decide +kernel
theorem dX6_winningTake_39 : decode cX6_winningTake 39 = .ok (.iload_n 3, 1) := by decide +kernel
theorem dX6_winningTake_40 : decode cX6_winningTake 40 = .ok (.iadd, 1) := by decide +kernel
theorem dX6_winningTake_41 : decode cX6_winningTake 41 = .ok (.ireturn, 1) := by decide +kernel
theorem dX6_winningTake_42 : decode cX6_winningTake 42 = .ok (.iinc 3 1, 3) := by decide +kernel
theorem dX6_winningTake_45 : decode cX6_winningTake 45 = .ok (.goto (-36), 3) := by decide +kernel
theorem dX6_winningTake_48 : decode cX6_winningTake 48 = .ok (.iinc 2 1, 3) := by decide +kernel
theorem dX6_winningTake_51 : decode cX6_winningTake 51 = .ok (.goto (-49), 3) := by decide +kernel
theorem dX6_winningTake_54 : decode cX6_winningTake 54 = .ok (.bipush (-6), 2) := by decide +kernel
theorem dX6_winningTake_56 : decode cX6_winningTake 56 = .ok (.ireturn, 1) := by decide +kernel
theorem dX6_learnRowValues_0 : decode cX6_learnRowValues 0 = .ok (.aload_n 0, 1) := by decide +kernel
theorem dX6_learnRowValues_1 : decode cX6_learnRowValues 1 = .ok (.getfield 61, 3) := by decide +kernel
theorem dX6_learnRowValues_4 : decode cX6_learnRowValues 4 = .ok (.istore_n 2, 1) := by decide +kernel
theorem dX6_learnRowValues_5 : decode cX6_learnRowValues 5 = .ok (.iload_n 2, 1) := by decide +kernel
theorem dX6_learnRowValues_6 : decode cX6_learnRowValues 6 = .ok (.iload_n 1, 1) := by decide +kernel
theorem dX6_learnRowValues_7 : decode cX6_learnRowValues 7 = .ok (.if_icmp .gt 27, 3) := by decide +kernel
theorem dX6_learnRowValues_10 : decode cX6_learnRowValues 10 = .ok (.aload_n 0, 1) := by decide +kernel
theorem dX6_learnRowValues_11 : decode cX6_learnRowValues 11 = .ok (.getfield 58, 3) := by decide +kernel
theorem dX6_learnRowValues_14 : decode cX6_learnRowValues 14 = .ok (.iload_n 2, 1) := by decide +kernel
theorem dX6_learnRowValues_15 : decode cX6_learnRowValues 15 = .ok (.aload_n 0, 1) := by decide +kernel
theorem dX6_learnRowValues_16 : decode cX6_learnRowValues 16 = .ok (.iload_n 2, 1) := by decide +kernel
theorem dX6_learnRowValues_17 : decode cX6_learnRowValues 17 = .ok (.invokevirtual 235, 3) := by decide +kernel
theorem dX6_learnRowValues_20 : decode cX6_learnRowValues 20 = .ok (.iastore, 1) := by decide +kernel
theorem dX6_learnRowValues_21 : decode cX6_learnRowValues 21 = .ok (.aload_n 0, 1) := by decide +kernel
theorem dX6_learnRowValues_22 : decode cX6_learnRowValues 22 = .ok (.iload_n 2, 1) := by decide +kernel
theorem dX6_learnRowValues_23 : decode cX6_learnRowValues 23 = .ok (.iconst 1, 1) := by decide +kernel
theorem dX6_learnRowValues_24 : decode cX6_learnRowValues 24 = .ok (.iadd, 1) := by decide +kernel
theorem dX6_learnRowValues_25 : decode cX6_learnRowValues 25 = .ok (.putfield 61, 3) := by decide +kernel
theorem dX6_learnRowValues_28 : decode cX6_learnRowValues 28 = .ok (.iinc 2 1, 3) := by decide +kernel
theorem dX6_learnRowValues_31 : decode cX6_learnRowValues 31 = .ok (.goto (-26), 3) := by decide +kernel
theorem dX6_learnRowValues_34 : decode cX6_learnRowValues 34 = .ok (.return_, 1) := by decide +kernel
theorem dX6_leastNotReached_0 : decode cX6_leastNotReached 0 = .ok (.lconst 0, 1) := by decide +kernel
theorem dX6_leastNotReached_1 : decode cX6_leastNotReached 1 = .ok (.lstore_n 2, 1) := by decide +kernel
theorem dX6_leastNotReached_2 : decode cX6_leastNotReached 2 = .ok (.iconst 1, 1) := by decide +kernel
theorem dX6_leastNotReached_3 : decode cX6_leastNotReached 3 = .ok (.istore 4, 2) := by decide +kernel
theorem dX6_leastNotReached_5 : decode cX6_leastNotReached 5 = .ok (.iload 4, 2) := by decide +kernel
theorem dX6_leastNotReached_7 : decode cX6_leastNotReached 7 = .ok (.iconst 2, 1) := by decide +kernel
theorem dX6_leastNotReached_8 : decode cX6_leastNotReached 8 = .ok (.if_icmp .gt 52, 3) := by decide +kernel
theorem dX6_leastNotReached_11 : decode cX6_leastNotReached 11 = .ok (.iconst 0, 1) := by decide +kernel
theorem dX6_leastNotReached_12 : decode cX6_leastNotReached 12 = .ok (.istore 5, 2) := by decide +kernel
theorem dX6_leastNotReached_14 : decode cX6_leastNotReached 14 = .ok (.iload 5, 2) := by decide +kernel
theorem dX6_leastNotReached_16 : decode cX6_leastNotReached 16 = .ok (.iload 4, 2) := by decide +kernel
theorem dX6_leastNotReached_18 : decode cX6_leastNotReached 18 = .ok (.iadd, 1) := by decide +kernel
theorem dX6_leastNotReached_19 : decode cX6_leastNotReached 19 = .ok (.iload_n 1, 1) := by decide +kernel
theorem dX6_leastNotReached_20 : decode cX6_leastNotReached 20 = .ok (.if_icmp .gt 34, 3) := by decide +kernel
theorem dX6_leastNotReached_23 : decode cX6_leastNotReached 23 = .ok (.lload_n 2, 1) := by decide +kernel
theorem dX6_leastNotReached_24 : decode cX6_leastNotReached 24 = .ok (.lconst 1, 1) := by decide +kernel
theorem dX6_leastNotReached_25 : decode cX6_leastNotReached 25 = .ok (.aload_n 0, 1) := by decide +kernel
theorem dX6_leastNotReached_26 : decode cX6_leastNotReached 26 = .ok (.getfield 58, 3) := by decide +kernel
theorem dX6_leastNotReached_29 : decode cX6_leastNotReached 29 = .ok (.iload 5, 2) := by decide +kernel
theorem dX6_leastNotReached_31 : decode cX6_leastNotReached 31 = .ok (.iaload, 1) := by decide +kernel
theorem dX6_leastNotReached_32 : decode cX6_leastNotReached 32 = .ok (.aload_n 0, 1) := by decide +kernel
theorem dX6_leastNotReached_33 : decode cX6_leastNotReached 33 = .ok (.getfield 58, 3) := by decide +kernel
theorem dX6_leastNotReached_36 : decode cX6_leastNotReached 36 = .ok (.iload_n 1, 1) := by decide +kernel
theorem dX6_leastNotReached_37 : decode cX6_leastNotReached 37 = .ok (.iload 4, 2) := by decide +kernel
theorem dX6_leastNotReached_39 : decode cX6_leastNotReached 39 = .ok (.isub, 1) := by decide +kernel
theorem dX6_leastNotReached_40 : decode cX6_leastNotReached 40 = .ok (.iload 5, 2) := by decide +kernel
theorem dX6_leastNotReached_42 : decode cX6_leastNotReached 42 = .ok (.isub, 1) := by decide +kernel
theorem dX6_leastNotReached_43 : decode cX6_leastNotReached 43 = .ok (.iaload, 1) := by decide +kernel
theorem dX6_leastNotReached_44 : decode cX6_leastNotReached 44 = .ok (.ixor, 1) := by decide +kernel
theorem dX6_leastNotReached_45 : decode cX6_leastNotReached 45 = .ok (.lshl, 1) := by decide +kernel
theorem dX6_leastNotReached_46 : decode cX6_leastNotReached 46 = .ok (.lor, 1) := by decide +kernel
theorem dX6_leastNotReached_47 : decode cX6_leastNotReached 47 = .ok (.lstore_n 2, 1) := by decide +kernel
theorem dX6_leastNotReached_48 : decode cX6_leastNotReached 48 = .ok (.iinc 5 1, 3) := by decide +kernel
theorem dX6_leastNotReached_51 : decode cX6_leastNotReached 51 = .ok (.goto (-37), 3) := by decide +kernel
theorem dX6_leastNotReached_54 : decode cX6_leastNotReached 54 = .ok (.iinc 4 1, 3) := by decide +kernel
theorem dX6_leastNotReached_57 : decode cX6_leastNotReached 57 = .ok (.goto (-52), 3) := by decide +kernel
theorem dX6_leastNotReached_60 : decode cX6_leastNotReached 60 = .ok (.iconst 0, 1) := by decide +kernel
theorem dX6_leastNotReached_61 : decode cX6_leastNotReached 61 = .ok (.istore 4, 2) := by decide +kernel
theorem dX6_leastNotReached_63 : decode cX6_leastNotReached 63 = .ok (.iload 4, 2) := by decide +kernel
theorem dX6_leastNotReached_65 : decode cX6_leastNotReached 65 = .ok (.bipush 63, 2) := by decide +kernel
theorem dX6_leastNotReached_67 : decode cX6_leastNotReached 67 = .ok (.if_icmp .ge 20, 3) := by decide +kernel
theorem dX6_leastNotReached_70 : decode cX6_leastNotReached 70 = .ok (.lload_n 2, 1) := by decide +kernel
theorem dX6_leastNotReached_71 : decode cX6_leastNotReached 71 = .ok (.iload 4, 2) := by decide +kernel
theorem dX6_leastNotReached_73 : decode cX6_leastNotReached 73 = .ok (.lshr, 1) := by decide +kernel
theorem dX6_leastNotReached_74 : decode cX6_leastNotReached 74 = .ok (.lconst 1, 1) := by decide +kernel
theorem dX6_leastNotReached_75 : decode cX6_leastNotReached 75 = .ok (.land, 1) := by decide +kernel
theorem dX6_leastNotReached_76 : decode cX6_leastNotReached 76 = .ok (.lconst 0, 1) := by decide +kernel
theorem dX6_leastNotReached_77 : decode cX6_leastNotReached 77 = .ok (.lcmp, 1) := by decide +kernel
theorem dX6_leastNotReached_78 : decode cX6_leastNotReached 78 = .ok (.ifCond .eq 9, 3) := by decide +kernel
theorem dX6_leastNotReached_81 : decode cX6_leastNotReached 81 = .ok (.iinc 4 1, 3) := by decide +kernel
theorem dX6_leastNotReached_84 : decode cX6_leastNotReached 84 = .ok (.goto (-21), 3) := by decide +kernel
theorem dX6_leastNotReached_87 : decode cX6_leastNotReached 87 = .ok (.iload 4, 2) := by decide +kernel
theorem dX6_leastNotReached_89 : decode cX6_leastNotReached 89 = .ok (.ireturn, 1) := by decide +kernel
theorem dX6_lean_0 : decode cX6_lean 0 = .ok (.iload_n 1, 1) := by decide +kernel
theorem dX6_lean_1 : decode cX6_lean 1 = .ok (.i2l, 1) := by decide +kernel
theorem dX6_lean_2 : decode cX6_lean 2 = .ok (.lconst 0, 1) := by decide +kernel
theorem dX6_lean_3 : decode cX6_lean 3 = .ok (.ldc2_w 177, 3) := by decide +kernel
theorem dX6_lean_6 : decode cX6_lean 6 = .ok (.invokestatic 73, 3) := by decide +kernel
theorem dX6_lean_9 : decode cX6_lean 9 = .ok (.ifCond .eq 24, 3) := by decide +kernel
theorem dX6_lean_12 : decode cX6_lean 12 = .ok (.iload_n 2, 1) := by decide +kernel
theorem dX6_lean_13 : decode cX6_lean 13 = .ok (.i2l, 1) := by decide +kernel
theorem dX6_lean_14 : decode cX6_lean 14 = .ok (.iload_n 3, 1) := by decide +kernel
theorem dX6_lean_15 : decode cX6_lean 15 = .ok (.iconst 1, 1) := by decide +kernel
theorem dX6_lean_16 : decode cX6_lean 16 = .ok (.if_icmp .ne 7, 3) := by decide +kernel
theorem dX6_lean_19 : decode cX6_lean 19 = .ok (.lconst 1, 1) := by decide +kernel
theorem dX6_lean_20 : decode cX6_lean 20 = .ok (.goto 4, 3) := by decide +kernel
theorem dX6_lean_23 : decode cX6_lean 23 = .ok (.lconst 0, 1) := by decide +kernel
theorem dX6_lean_24 : decode cX6_lean 24 = .ok (.ldc2_w 238, 3) := by decide +kernel
theorem dX6_lean_27 : decode cX6_lean 27 = .ok (.invokestatic 73, 3) := by decide +kernel
theorem dX6_lean_30 : decode cX6_lean 30 = .ok (.ifCond .ne 7, 3) := by decide +kernel
theorem dX6_lean_33 : decode cX6_lean 33 = .ok (.ldc2_w 240, 3) := by decide +kernel
theorem dX6_lean_36 : decode cX6_lean 36 = .ok (.lreturn, 1) := by decide +kernel
theorem dX6_lean_37 : decode cX6_lean 37 = .ok (.iload_n 3, 1) := by decide +kernel
theorem dX6_lean_38 : decode cX6_lean 38 = .ok (.i2l, 1) := by decide +kernel
theorem dX6_lean_39 : decode cX6_lean 39 = .ok (.lconst 0, 1) := by decide +kernel
theorem dX6_lean_40 : decode cX6_lean 40 = .ok (.lconst 1, 1) := by decide +kernel
theorem dX6_lean_41 : decode cX6_lean 41 = .ok (.invokestatic 73, 3) := by decide +kernel
theorem dX6_lean_44 : decode cX6_lean 44 = .ok (.ifCond .eq 14, 3) := by decide +kernel
theorem dX6_lean_47 : decode cX6_lean 47 = .ok (.iload 4, 2) := by decide +kernel
theorem dX6_lean_49 : decode cX6_lean 49 = .ok (.i2l, 1) := by decide +kernel
theorem dX6_lean_50 : decode cX6_lean 50 = .ok (.lconst 0, 1) := by decide +kernel
theorem dX6_lean_51 : decode cX6_lean 51 = .ok (.lconst 1, 1) := by decide +kernel
theorem dX6_lean_52 : decode cX6_lean 52 = .ok (.invokestatic 73, 3) := by decide +kernel
theorem dX6_lean_55 : decode cX6_lean 55 = .ok (.ifCond .ne 7, 3) := by decide +kernel
theorem dX6_lean_58 : decode cX6_lean 58 = .ok (.ldc2_w 240, 3) := by decide +kernel
theorem dX6_lean_61 : decode cX6_lean 61 = .ok (.lreturn, 1) := by decide +kernel
theorem dX6_lean_62 : decode cX6_lean 62 = .ok (.iload_n 2, 1) := by decide +kernel
theorem dX6_lean_63 : decode cX6_lean 63 = .ok (.iload_n 2, 1) := by decide +kernel
theorem dX6_lean_64 : decode cX6_lean 64 = .ok (.imul, 1) := by decide +kernel
theorem dX6_lean_65 : decode cX6_lean 65 = .ok (.istore 5, 2) := by decide +kernel
theorem dX6_lean_67 : decode cX6_lean 67 = .ok (.iload_n 3, 1) := by decide +kernel
theorem dX6_lean_68 : decode cX6_lean 68 = .ok (.iconst 1, 1) := by decide +kernel
theorem dX6_lean_69 : decode cX6_lean 69 = .ok (.if_icmp .ne 15, 3) := by decide +kernel
theorem dX6_lean_72 : decode cX6_lean 72 = .ok (.ldc2_w 242, 3) := by decide +kernel
theorem dX6_lean_75 : decode cX6_lean 75 = .ok (.iload 5, 2) := by decide +kernel
theorem dX6_lean_77 : decode cX6_lean 77 = .ok (.i2l, 1) := by decide +kernel
theorem dX6_lean_78 : decode cX6_lean 78 = .ok (.iload 4, 2) := by decide +kernel
theorem dX6_lean_80 : decode cX6_lean 80 = .ok (.invokestatic 244, 3) := by decide +kernel
theorem dX6_lean_83 : decode cX6_lean 83 = .ok (.lreturn, 1) := by decide +kernel
theorem dX6_lean_84 : decode cX6_lean 84 = .ok (.lconst 1, 1) := by decide +kernel
theorem dX6_lean_85 : decode cX6_lean 85 = .ok (.lstore 6, 2) := by decide +kernel
theorem dX6_lean_87 : decode cX6_lean 87 = .ok (.lconst 1, 1) := by decide +kernel
theorem dX6_lean_88 : decode cX6_lean 88 = .ok (.lstore 8, 2) := by decide +kernel
theorem dX6_lean_90 : decode cX6_lean 90 = .ok (.iconst 0, 1) := by decide +kernel
theorem dX6_lean_91 : decode cX6_lean 91 = .ok (.istore 10, 2) := by decide +kernel
theorem dX6_lean_93 : decode cX6_lean 93 = .ok (.iload 10, 2) := by decide +kernel
theorem dX6_lean_95 : decode cX6_lean 95 = .ok (.iload_n 1, 1) := by decide +kernel
theorem dX6_lean_96 : decode cX6_lean 96 = .ok (.if_icmp .ge 28, 3) := by decide +kernel
theorem dX6_lean_99 : decode cX6_lean 99 = .ok (.lload 6, 2) := by decide +kernel
theorem dX6_lean_101 : decode cX6_lean 101 = .ok (.bipush 100, 2) := by decide +kernel
theorem dX6_lean_103 : decode cX6_lean 103 = .ok (.iload 5, 2) := by decide +kernel
theorem dX6_lean_105 : decode cX6_lean 105 = .ok (.isub, 1) := by decide +kernel
theorem dX6_lean_106 : decode cX6_lean 106 = .ok (.i2l, 1) := by decide +kernel
theorem dX6_lean_107 : decode cX6_lean 107 = .ok (.lmul, 1) := by decide +kernel
theorem dX6_lean_108 : decode cX6_lean 108 = .ok (.lstore 6, 2) := by decide +kernel
theorem dX6_lean_110 : decode cX6_lean 110 = .ok (.lload 8, 2) := by decide +kernel
theorem dX6_lean_112 : decode cX6_lean 112 = .ok (.ldc2_w 242, 3) := by decide +kernel
theorem dX6_lean_115 : decode cX6_lean 115 = .ok (.lmul, 1) := by decide +kernel
theorem dX6_lean_116 : decode cX6_lean 116 = .ok (.lstore 8, 2) := by decide +kernel
theorem dX6_lean_118 : decode cX6_lean 118 = .ok (.iinc 10 1, 3) := by decide +kernel
theorem dX6_lean_121 : decode cX6_lean 121 = .ok (.goto (-28), 3) := by decide +kernel
theorem dX6_lean_124 : decode cX6_lean 124 = .ok (.lload 6, 2) := by decide +kernel
theorem dX6_lean_126 : decode cX6_lean 126 = .ok (.lload 8, 2) := by decide +kernel
theorem dX6_lean_128 : decode cX6_lean 128 = .ok (.iload 4, 2) := by decide +kernel
theorem dX6_lean_130 : decode cX6_lean 130 = .ok (.invokestatic 244, 3) := by decide +kernel
theorem dX6_lean_133 : decode cX6_lean 133 = .ok (.lreturn, 1) := by decide +kernel
theorem dX6_inLowestTerms_0 : decode cX6_inLowestTerms 0 = .ok (.lload_n 0, 1) := by decide +kernel
theorem dX6_inLowestTerms_1 : decode cX6_inLowestTerms 1 = .ok (.lload_n 2, 1) := by decide +kernel
theorem dX6_inLowestTerms_2 : decode cX6_inLowestTerms 2 = .ok (.invokestatic 248, 3) := by decide +kernel
theorem dX6_inLowestTerms_5 : decode cX6_inLowestTerms 5 = .ok (.lstore 5, 2) := by decide +kernel
theorem dX6_inLowestTerms_7 : decode cX6_inLowestTerms 7 = .ok (.iload 4, 2) := by decide +kernel
theorem dX6_inLowestTerms_9 : decode cX6_inLowestTerms 9 = .ok (.ifCond .ne 7, 3) := by decide +kernel
theorem dX6_inLowestTerms_12 : decode cX6_inLowestTerms 12 = .ok (.lload_n 0, 1) := by decide +kernel
theorem dX6_inLowestTerms_13 : decode cX6_inLowestTerms 13 = .ok (.goto 4, 3) := by decide +kernel
theorem dX6_inLowestTerms_16 : decode cX6_inLowestTerms 16 = .ok (.lload_n 2, 1) := by decide +kernel
theorem dX6_inLowestTerms_17 : decode cX6_inLowestTerms 17 = .ok (.lstore 7, 2) := by decide +kernel
theorem dX6_inLowestTerms_19 : decode cX6_inLowestTerms 19 = .ok (.lload 5, 2) := by decide +kernel
theorem dX6_inLowestTerms_21 : decode cX6_inLowestTerms 21 = .ok (.lconst 0, 1) := by decide +kernel
theorem dX6_inLowestTerms_22 : decode cX6_inLowestTerms 22 = .ok (.lcmp, 1) := by decide +kernel
theorem dX6_inLowestTerms_23 : decode cX6_inLowestTerms 23 = .ok (.ifCond .ne 8, 3) := by decide +kernel
theorem dX6_inLowestTerms_26 : decode cX6_inLowestTerms 26 = .ok (.lload 7, 2) := by decide +kernel
theorem dX6_inLowestTerms_28 : decode cX6_inLowestTerms 28 = .ok (.goto 8, 3) := by decide +kernel
theorem dX6_inLowestTerms_31 : decode cX6_inLowestTerms 31 = .ok (.lload 7, 2) := by decide +kernel
theorem dX6_inLowestTerms_33 : decode cX6_inLowestTerms 33 = .ok (.lload 5, 2) := by decide +kernel
theorem dX6_inLowestTerms_35 : decode cX6_inLowestTerms 35 = .ok (.ldiv, 1) := by decide +kernel
theorem dX6_inLowestTerms_36 : decode cX6_inLowestTerms 36 = .ok (.lreturn, 1) := by decide +kernel
theorem dX6_greatestDivisor_0 : decode cX6_greatestDivisor 0 = .ok (.lload_n 0, 1) := by decide +kernel
theorem dX6_greatestDivisor_1 : decode cX6_greatestDivisor 1 = .ok (.lstore 4, 2) := by decide +kernel
theorem dX6_greatestDivisor_3 : decode cX6_greatestDivisor 3 = .ok (.lload_n 2, 1) := by decide +kernel
theorem dX6_greatestDivisor_4 : decode cX6_greatestDivisor 4 = .ok (.lstore 6, 2) := by decide +kernel
theorem dX6_greatestDivisor_6 : decode cX6_greatestDivisor 6 = .ok (.iconst 0, 1) := by decide +kernel
theorem dX6_greatestDivisor_7 : decode cX6_greatestDivisor 7 = .ok (.istore 8, 2) := by decide +kernel
theorem dX6_greatestDivisor_9 : decode cX6_greatestDivisor 9 = .ok (.iload 8, 2) := by decide +kernel
theorem dX6_greatestDivisor_11 : decode cX6_greatestDivisor 11 = .ok (.sipush 1000, 3) := by decide +kernel
theorem dX6_greatestDivisor_14 : decode cX6_greatestDivisor 14 = .ok (.if_icmp .ge 31, 3) := by decide +kernel
theorem dX6_greatestDivisor_17 : decode cX6_greatestDivisor 17 = .ok (.lload 6, 2) := by decide +kernel
theorem dX6_greatestDivisor_19 : decode cX6_greatestDivisor 19 = .ok (.lconst 0, 1) := by decide +kernel
theorem dX6_greatestDivisor_20 : decode cX6_greatestDivisor 20 = .ok (.lcmp, 1) := by decide +kernel
theorem dX6_greatestDivisor_21 : decode cX6_greatestDivisor 21 = .ok (.ifCond .eq 24, 3) := by decide +kernel
theorem dX6_greatestDivisor_24 : decode cX6_greatestDivisor 24 = .ok (.lload 4, 2) := by decide +kernel
theorem dX6_greatestDivisor_26 : decode cX6_greatestDivisor 26 = .ok (.lload 6, 2) := by decide +kernel
theorem dX6_greatestDivisor_28 : decode cX6_greatestDivisor 28 = .ok (.lrem, 1) := by decide +kernel
theorem dX6_greatestDivisor_29 : decode cX6_greatestDivisor 29 = .ok (.lstore 9, 2) := by decide +kernel
theorem dX6_greatestDivisor_31 : decode cX6_greatestDivisor 31 = .ok (.lload 6, 2) := by decide +kernel
theorem dX6_greatestDivisor_33 : decode cX6_greatestDivisor 33 = .ok (.lstore 4, 2) := by decide +kernel
theorem dX6_greatestDivisor_35 : decode cX6_greatestDivisor 35 = .ok (.lload 9, 2) := by decide +kernel
theorem dX6_greatestDivisor_37 : decode cX6_greatestDivisor 37 = .ok (.lstore 6, 2) := by decide +kernel
theorem dX6_greatestDivisor_39 : decode cX6_greatestDivisor 39 = .ok (.iinc 8 1, 3) := by decide +kernel
theorem dX6_greatestDivisor_42 : decode cX6_greatestDivisor 42 = .ok (.goto (-33), 3) := by decide +kernel
theorem dX6_greatestDivisor_45 : decode cX6_greatestDivisor 45 = .ok (.lload 4, 2) := by decide +kernel
theorem dX6_greatestDivisor_47 : decode cX6_greatestDivisor 47 = .ok (.lreturn, 1) := by decide +kernel
theorem dX6_year_0 : decode cX6_year 0 = .ok (.iload_n 1, 1) := by decide +kernel
theorem dX6_year_1 : decode cX6_year 1 = .ok (.i2l, 1) := by decide +kernel
theorem dX6_year_2 : decode cX6_year 2 = .ok (.lconst 0, 1) := by decide +kernel
theorem dX6_year_3 : decode cX6_year 3 = .ok (.ldc2_w 189, 3) := by decide +kernel
theorem dX6_year_6 : decode cX6_year 6 = .ok (.invokestatic 73, 3) := by decide +kernel
theorem dX6_year_9 : decode cX6_year 9 = .ok (.ifCond .eq 27, 3) := by decide +kernel
theorem dX6_year_12 : decode cX6_year 12 = .ok (.iload_n 2, 1) := by decide +kernel
theorem dX6_year_13 : decode cX6_year 13 = .ok (.i2l, 1) := by decide +kernel
theorem dX6_year_14 : decode cX6_year 14 = .ok (.lconst 1, 1) := by decide +kernel
theorem dX6_year_15 : decode cX6_year 15 = .ok (.ldc2_w 252, 3) := by decide +kernel
theorem dX6_year_18 : decode cX6_year 18 = .ok (.invokestatic 73, 3) := by decide +kernel
theorem dX6_year_21 : decode cX6_year 21 = .ok (.ifCond .eq 15, 3) := by decide +kernel
theorem dX6_year_24 : decode cX6_year 24 = .ok (.iload_n 3, 1) := by decide +kernel
theorem dX6_year_25 : decode cX6_year 25 = .ok (.i2l, 1) := by decide +kernel
theorem dX6_year_26 : decode cX6_year 26 = .ok (.lconst 0, 1) := by decide +kernel
theorem dX6_year_27 : decode cX6_year 27 = .ok (.ldc2_w 138, 3) := by decide +kernel
theorem dX6_year_30 : decode cX6_year 30 = .ok (.invokestatic 73, 3) := by decide +kernel
theorem dX6_year_33 : decode cX6_year 33 = .ok (.ifCond .ne 6, 3) := by decide +kernel
theorem dX6_year_36 : decode cX6_year 36 = .ok (.bipush (-2), 2) := by decide +kernel
theorem dX6_year_38 : decode cX6_year 38 = .ok (.ireturn, 1) := by decide +kernel
theorem dX6_year_39 : decode cX6_year 39 = .ok (.aload_n 0, 1) := by decide +kernel
theorem dX6_year_40 : decode cX6_year 40 = .ok (.getfield 43, 3) := by decide +kernel
theorem dX6_year_43 : decode cX6_year 43 = .ok (.getfield 128, 3) := by decide +kernel
theorem dX6_year_46 : decode cX6_year 46 = .ok (.astore 4, 2) := by decide +kernel
theorem dX6_year_48 : decode cX6_year 48 = .ok (.aload 4, 2) := by decide +kernel
theorem dX6_year_50 : decode cX6_year 50 = .ok (.aload_n 0, 1) := by decide +kernel
theorem dX6_year_51 : decode cX6_year 51 = .ok (.getfield 12, 3) := by decide +kernel
theorem dX6_year_54 : decode cX6_year 54 = .ok (.invokevirtual 131, 3) := by decide +kernel
theorem dX6_year_57 : decode cX6_year 57 = .ok (.iload_n 1, 1) := by decide +kernel
theorem dX6_year_58 : decode cX6_year 58 = .ok (.istore 5, 2) := by decide +kernel
theorem dX6_year_60 : decode cX6_year 60 = .ok (.iconst 0, 1) := by decide +kernel
theorem dX6_year_61 : decode cX6_year 61 = .ok (.istore 6, 2) := by decide +kernel
theorem dX6_year_63 : decode cX6_year 63 = .ok (.iload 6, 2) := by decide +kernel
theorem dX6_year_65 : decode cX6_year 65 = .ok (.iload_n 2, 1) := by decide +kernel
theorem dX6_year_66 : decode cX6_year 66 = .ok (.if_icmp .ge 81, 3) := by decide +kernel
theorem dX6_year_69 : decode cX6_year 69 = .ok (.bipush 75, 2) := by decide +kernel
theorem dX6_year_71 : decode cX6_year 71 = .ok (.iload 5, 2) := by decide +kernel
theorem dX6_year_73 : decode cX6_year 73 = .ok (.imul, 1) := by decide +kernel
theorem dX6_year_74 : decode cX6_year 74 = .ok (.bipush 74, 2) := by decide +kernel
theorem dX6_year_76 : decode cX6_year 76 = .ok (.iadd, 1) := by decide +kernel
theorem dX6_year_77 : decode cX6_year 77 = .ok (.ldc 254, 2) := by decide +kernel
theorem dX6_year_79 : decode cX6_year 79 = .ok (.irem, 1) := by decide +kernel
theorem dX6_year_80 : decode cX6_year 80 = .ok (.istore 5, 2) := by decide +kernel
theorem dX6_year_82 : decode cX6_year 82 = .ok (.iload 5, 2) := by decide +kernel
theorem dX6_year_84 : decode cX6_year 84 = .ok (.bipush 6, 2) := by decide +kernel
theorem dX6_year_86 : decode cX6_year 86 = .ok (.invokestatic 255, 3) := by decide +kernel
theorem dX6_year_89 : decode cX6_year 89 = .ok (.istore 7, 2) := by decide +kernel
theorem dX6_year_91 : decode cX6_year 91 = .ok (.iload 5, 2) := by decide +kernel
theorem dX6_year_93 : decode cX6_year 93 = .ok (.bipush 6, 2) := by decide +kernel
theorem dX6_year_95 : decode cX6_year 95 = .ok (.idiv, 1) := by decide +kernel
theorem dX6_year_96 : decode cX6_year 96 = .ok (.bipush 8, 2) := by decide +kernel
theorem dX6_year_98 : decode cX6_year 98 = .ok (.irem, 1) := by decide +kernel
theorem dX6_year_99 : decode cX6_year 99 = .ok (.iconst 5, 1) := by decide +kernel
theorem dX6_year_100 : decode cX6_year 100 = .ok (.invokestatic 258, 3) := by decide +kernel
theorem dX6_year_103 : decode cX6_year 103 = .ok (.istore 8, 2) := by decide +kernel
theorem dX6_year_105 : decode cX6_year 105 = .ok (.iload 5, 2) := by decide +kernel
theorem dX6_year_107 : decode cX6_year 107 = .ok (.bipush 48, 2) := by decide +kernel
theorem dX6_year_109 : decode cX6_year 109 = .ok (.idiv, 1) := by decide +kernel
theorem dX6_year_110 : decode cX6_year 110 = .ok (.bipush 25, 2) := by decide +kernel
theorem dX6_year_112 : decode cX6_year 112 = .ok (.irem, 1) := by decide +kernel
theorem dX6_year_113 : decode cX6_year 113 = .ok (.istore 9, 2) := by decide +kernel
theorem dX6_year_115 : decode cX6_year 115 = .ok (.aload 4, 2) := by decide +kernel
theorem dX6_year_117 : decode cX6_year 117 = .ok (.iload 8, 2) := by decide +kernel
theorem dX6_year_119 : decode cX6_year 119 = .ok (.iload 7, 2) := by decide +kernel
theorem dX6_year_121 : decode cX6_year 121 = .ok (.iload 9, 2) := by decide +kernel
theorem dX6_year_123 : decode cX6_year 123 = .ok (.invokevirtual 261, 3) := by decide +kernel
theorem dX6_year_126 : decode cX6_year 126 = .ok (.ifCond .ne 15, 3) := by decide +kernel
theorem dX6_year_129 : decode cX6_year 129 = .ok (.aload 4, 2) := by decide +kernel
theorem dX6_year_131 : decode cX6_year 131 = .ok (.iload 8, 2) := by decide +kernel
theorem dX6_year_133 : decode cX6_year 133 = .ok (.iload 7, 2) := by decide +kernel
theorem dX6_year_135 : decode cX6_year 135 = .ok (.iload 9, 2) := by decide +kernel
theorem dX6_year_137 : decode cX6_year 137 = .ok (.invokevirtual 264, 3) := by decide +kernel
theorem dX6_year_140 : decode cX6_year 140 = .ok (.pop, 1) := by decide +kernel
theorem dX6_year_141 : decode cX6_year 141 = .ok (.iinc 6 1, 3) := by decide +kernel
theorem dX6_year_144 : decode cX6_year 144 = .ok (.goto (-81), 3) := by decide +kernel
theorem dX6_year_147 : decode cX6_year 147 = .ok (.iload_n 3, 1) := by decide +kernel
theorem dX6_year_148 : decode cX6_year 148 = .ok (.lookupswitch 46 #[(0, 28), (1, 37)], 28) := by decide +kernel
theorem dX6_year_176 : decode cX6_year 176 = .ok (.aload 4, 2) := by decide +kernel
theorem dX6_year_178 : decode cX6_year 178 = .ok (.getfield 146, 3) := by decide +kernel
theorem dX6_year_181 : decode cX6_year 181 = .ok (.invokestatic 95, 3) := by decide +kernel
theorem dX6_year_184 : decode cX6_year 184 = .ok (.ireturn, 1) := by decide +kernel
theorem dX6_year_185 : decode cX6_year 185 = .ok (.aload 4, 2) := by decide +kernel
theorem dX6_year_187 : decode cX6_year 187 = .ok (.getfield 149, 3) := by decide +kernel
theorem dX6_year_190 : decode cX6_year 190 = .ok (.invokestatic 95, 3) := by decide +kernel
theorem dX6_year_193 : decode cX6_year 193 = .ok (.ireturn, 1) := by decide +kernel
theorem dX6_year_194 : decode cX6_year 194 = .ok (.aload 4, 2) := by decide +kernel
theorem dX6_year_196 : decode cX6_year 196 = .ok (.invokevirtual 267, 3) := by decide +kernel
theorem dX6_year_199 : decode cX6_year 199 = .ok (.ireturn, 1) := by decide +kernel
theorem dX6_image_0 : decode cX6_image 0 = .ok (.iload_n 1, 1) := by decide +kernel
theorem dX6_image_1 : decode cX6_image 1 = .ok (.i2l, 1) := by decide +kernel
theorem dX6_image_2 : decode cX6_image 2 = .ok (.lconst 0, 1) := by decide +kernel
theorem dX6_image_3 : decode cX6_image 3 = .ok (.lconst 1, 1) := by decide +kernel
theorem dX6_image_4 : decode cX6_image 4 = .ok (.invokestatic 73, 3) := by decide +kernel
theorem dX6_image_7 : decode cX6_image 7 = .ok (.ifCond .ne 6, 3) := by decide +kernel
theorem dX6_image_10 : decode cX6_image 10 = .ok (.bipush (-2), 2) := by decide +kernel
theorem dX6_image_12 : decode cX6_image 12 = .ok (.ireturn, 1) := by decide +kernel
theorem dX6_image_13 : decode cX6_image 13 = .ok (.iload_n 1, 1) := by decide +kernel
theorem dX6_image_14 : decode cX6_image 14 = .ok (.ifCond .ne 10, 3) := by decide +kernel
theorem dX6_image_17 : decode cX6_image 17 = .ok (.aload_n 0, 1) := by decide +kernel
theorem dX6_image_18 : decode cX6_image 18 = .ok (.getfield 33, 3) := by decide +kernel
theorem dX6_image_21 : decode cX6_image 21 = .ok (.goto 7, 3) := by decide +kernel
theorem dX6_image_24 : decode cX6_image 24 = .ok (.aload_n 0, 1) := by decide +kernel
theorem dX6_image_25 : decode cX6_image 25 = .ok (.getfield 37, 3) := by decide +kernel
theorem dX6_image_28 : decode cX6_image 28 = .ok (.astore_n 2, 1) := by decide +kernel
theorem dX6_image_29 : decode cX6_image 29 = .ok (.aload_n 2, 1) := by decide +kernel
theorem dX6_image_30 : decode cX6_image 30 = .ok (.getfield 270, 3) := by decide +kernel
theorem dX6_image_33 : decode cX6_image 33 = .ok (.aload_n 0, 1) := by decide +kernel
theorem dX6_image_34 : decode cX6_image 34 = .ok (.getfield 12, 3) := by decide +kernel
theorem dX6_image_37 : decode cX6_image 37 = .ok (.invokevirtual 131, 3) := by decide +kernel
theorem dX6_image_40 : decode cX6_image 40 = .ok (.aload_n 2, 1) := by decide +kernel
theorem dX6_image_41 : decode cX6_image 41 = .ok (.getfield 273, 3) := by decide +kernel
theorem dX6_image_44 : decode cX6_image 44 = .ok (.aload_n 0, 1) := by decide +kernel
theorem dX6_image_45 : decode cX6_image 45 = .ok (.getfield 26, 3) := by decide +kernel
theorem dX6_image_48 : decode cX6_image 48 = .ok (.invokevirtual 274, 3) := by decide +kernel
theorem dX6_image_51 : decode cX6_image 51 = .ok (.aload_n 2, 1) := by decide +kernel
theorem dX6_image_52 : decode cX6_image 52 = .ok (.iconst 1, 1) := by decide +kernel
theorem dX6_image_53 : decode cX6_image 53 = .ok (.putfield 277, 3) := by decide +kernel
theorem dX6_image_56 : decode cX6_image 56 = .ok (.iconst 1, 1) := by decide +kernel
theorem dX6_image_57 : decode cX6_image 57 = .ok (.ireturn, 1) := by decide +kernel
theorem dX6_restore_0 : decode cX6_restore 0 = .ok (.iload_n 1, 1) := by decide +kernel
theorem dX6_restore_1 : decode cX6_restore 1 = .ok (.i2l, 1) := by decide +kernel
theorem dX6_restore_2 : decode cX6_restore 2 = .ok (.lconst 0, 1) := by decide +kernel
theorem dX6_restore_3 : decode cX6_restore 3 = .ok (.lconst 1, 1) := by decide +kernel
theorem dX6_restore_4 : decode cX6_restore 4 = .ok (.invokestatic 73, 3) := by decide +kernel
theorem dX6_restore_7 : decode cX6_restore 7 = .ok (.ifCond .ne 6, 3) := by decide +kernel
theorem dX6_restore_10 : decode cX6_restore 10 = .ok (.bipush (-2), 2) := by decide +kernel
theorem dX6_restore_12 : decode cX6_restore 12 = .ok (.ireturn, 1) := by decide +kernel
theorem dX6_restore_13 : decode cX6_restore 13 = .ok (.iload_n 1, 1) := by decide +kernel
theorem dX6_restore_14 : decode cX6_restore 14 = .ok (.ifCond .ne 10, 3) := by decide +kernel
theorem dX6_restore_17 : decode cX6_restore 17 = .ok (.aload_n 0, 1) := by decide +kernel
theorem dX6_restore_18 : decode cX6_restore 18 = .ok (.getfield 33, 3) := by decide +kernel
theorem dX6_restore_21 : decode cX6_restore 21 = .ok (.goto 7, 3) := by decide +kernel
theorem dX6_restore_24 : decode cX6_restore 24 = .ok (.aload_n 0, 1) := by decide +kernel
theorem dX6_restore_25 : decode cX6_restore 25 = .ok (.getfield 37, 3) := by decide +kernel
theorem dX6_restore_28 : decode cX6_restore 28 = .ok (.astore_n 2, 1) := by decide +kernel
theorem dX6_restore_29 : decode cX6_restore 29 = .ok (.aload_n 2, 1) := by decide +kernel
theorem dX6_restore_30 : decode cX6_restore 30 = .ok (.getfield 277, 3) := by decide +kernel
theorem dX6_restore_33 : decode cX6_restore 33 = .ok (.ifCond .ne 6, 3) := by decide +kernel
theorem dX6_restore_36 : decode cX6_restore 36 = .ok (.bipush (-3), 2) := by decide +kernel
theorem dX6_restore_38 : decode cX6_restore 38 = .ok (.ireturn, 1) := by decide +kernel
theorem dX6_restore_39 : decode cX6_restore 39 = .ok (.aload_n 0, 1) := by decide +kernel
theorem dX6_restore_40 : decode cX6_restore 40 = .ok (.getfield 12, 3) := by decide +kernel
theorem dX6_restore_43 : decode cX6_restore 43 = .ok (.aload_n 2, 1) := by decide +kernel
theorem dX6_restore_44 : decode cX6_restore 44 = .ok (.getfield 270, 3) := by decide +kernel
theorem dX6_restore_47 : decode cX6_restore 47 = .ok (.invokevirtual 131, 3) := by decide +kernel
theorem dX6_restore_50 : decode cX6_restore 50 = .ok (.aload_n 0, 1) := by decide +kernel
theorem dX6_restore_51 : decode cX6_restore 51 = .ok (.getfield 26, 3) := by decide +kernel
theorem dX6_restore_54 : decode cX6_restore 54 = .ok (.aload_n 2, 1) := by decide +kernel
theorem dX6_restore_55 : decode cX6_restore 55 = .ok (.getfield 273, 3) := by decide +kernel
theorem dX6_restore_58 : decode cX6_restore 58 = .ok (.invokevirtual 274, 3) := by decide +kernel
theorem dX6_restore_61 : decode cX6_restore 61 = .ok (.iconst 1, 1) := by decide +kernel
theorem dX6_restore_62 : decode cX6_restore 62 = .ok (.ireturn, 1) := by decide +kernel
theorem dX6_told_0 : decode cX6_told 0 = .ok (.iload_n 1, 1) := by decide +kernel
theorem dX6_told_1 : decode cX6_told 1 = .ok (.bipush 10, 2) := by decide +kernel
theorem dX6_told_3 : decode cX6_told 3 = .ok (.if_icmp .lt 16, 3) := by decide +kernel
theorem dX6_told_6 : decode cX6_told 6 = .ok (.aload_n 0, 1) := by decide +kernel
theorem dX6_told_7 : decode cX6_told 7 = .ok (.iload_n 1, 1) := by decide +kernel
theorem dX6_told_8 : decode cX6_told 8 = .ok (.bipush 10, 2) := by decide +kernel
theorem dX6_told_10 : decode cX6_told 10 = .ok (.idiv, 1) := by decide +kernel
theorem dX6_told_11 : decode cX6_told 11 = .ok (.iload_n 1, 1) := by decide +kernel
theorem dX6_told_12 : decode cX6_told 12 = .ok (.bipush 10, 2) := by decide +kernel
theorem dX6_told_14 : decode cX6_told 14 = .ok (.irem, 1) := by decide +kernel
theorem dX6_told_15 : decode cX6_told 15 = .ok (.invokevirtual 281, 3) := by decide +kernel
theorem dX6_told_18 : decode cX6_told 18 = .ok (.ireturn, 1) := by decide +kernel
theorem dX6_told_19 : decode cX6_told 19 = .ok (.iload_n 1, 1) := by decide +kernel
theorem dX6_told_20 : decode cX6_told 20 = .ok (.tableswitch 100 0 6 #[44, 52, 60, 68, 76, 84, 92], 44) := by decide +kernel
theorem dX6_told_64 : decode cX6_told 64 = .ok (.aload_n 0, 1) := by decide +kernel
theorem dX6_told_65 : decode cX6_told 65 = .ok (.getfield 19, 3) := by decide +kernel
theorem dX6_told_68 : decode cX6_told 68 = .ok (.getfield 111, 3) := by decide +kernel
theorem dX6_told_71 : decode cX6_told 71 = .ok (.ireturn, 1) := by decide +kernel
theorem dX6_told_72 : decode cX6_told 72 = .ok (.aload_n 0, 1) := by decide +kernel
theorem dX6_told_73 : decode cX6_told 73 = .ok (.getfield 12, 3) := by decide +kernel
theorem dX6_told_76 : decode cX6_told 76 = .ok (.getfield 101, 3) := by decide +kernel
theorem dX6_told_79 : decode cX6_told 79 = .ok (.ireturn, 1) := by decide +kernel
theorem dX6_told_80 : decode cX6_told 80 = .ok (.aload_n 0, 1) := by decide +kernel
theorem dX6_told_81 : decode cX6_told 81 = .ok (.getfield 12, 3) := by decide +kernel
theorem dX6_told_84 : decode cX6_told 84 = .ok (.getfield 146, 3) := by decide +kernel
theorem dX6_told_87 : decode cX6_told 87 = .ok (.ireturn, 1) := by decide +kernel
theorem dX6_told_88 : decode cX6_told 88 = .ok (.aload_n 0, 1) := by decide +kernel
theorem dX6_told_89 : decode cX6_told 89 = .ok (.getfield 12, 3) := by decide +kernel
theorem dX6_told_92 : decode cX6_told 92 = .ok (.getfield 149, 3) := by decide +kernel
theorem dX6_told_95 : decode cX6_told 95 = .ok (.ireturn, 1) := by decide +kernel
theorem dX6_told_96 : decode cX6_told 96 = .ok (.aload_n 0, 1) := by decide +kernel
theorem dX6_told_97 : decode cX6_told 97 = .ok (.getfield 12, 3) := by decide +kernel
theorem dX6_told_100 : decode cX6_told 100 = .ok (.getfield 92, 3) := by decide +kernel
theorem dX6_told_103 : decode cX6_told 103 = .ok (.ireturn, 1) := by decide +kernel
theorem dX6_told_104 : decode cX6_told 104 = .ok (.aload_n 0, 1) := by decide +kernel
theorem dX6_told_105 : decode cX6_told 105 = .ok (.getfield 12, 3) := by decide +kernel
theorem dX6_told_108 : decode cX6_told 108 = .ok (.getfield 155, 3) := by decide +kernel
theorem dX6_told_111 : decode cX6_told 111 = .ok (.ireturn, 1) := by decide +kernel
theorem dX6_told_112 : decode cX6_told 112 = .ok (.aload_n 0, 1) := by decide +kernel
theorem dX6_told_113 : decode cX6_told 113 = .ok (.getfield 26, 3) := by decide +kernel
theorem dX6_told_116 : decode cX6_told 116 = .ok (.getfield 206, 3) := by decide +kernel
theorem dX6_told_119 : decode cX6_told 119 = .ok (.ireturn, 1) := by decide +kernel
theorem dX6_told_120 : decode cX6_told 120 = .ok (.bipush (-2), 2) := by decide +kernel
theorem dX6_told_122 : decode cX6_told 122 = .ok (.ireturn, 1) := by decide +kernel
theorem dX6_toldOfHeap_0 : decode cX6_toldOfHeap 0 = .ok (.iload_n 2, 1) := by decide +kernel
theorem dX6_toldOfHeap_1 : decode cX6_toldOfHeap 1 = .ok (.invokestatic 65, 3) := by decide +kernel
theorem dX6_toldOfHeap_4 : decode cX6_toldOfHeap 4 = .ok (.ifCond .ne 6, 3) := by decide +kernel
theorem dX6_toldOfHeap_7 : decode cX6_toldOfHeap 7 = .ok (.bipush (-2), 2) := by decide +kernel
theorem dX6_toldOfHeap_9 : decode cX6_toldOfHeap 9 = .ok (.ireturn, 1) := by decide +kernel
theorem dX6_toldOfHeap_10 : decode cX6_toldOfHeap 10 = .ok (.iload_n 1, 1) := by decide +kernel
theorem dX6_toldOfHeap_11 : decode cX6_toldOfHeap 11 = .ok (.tableswitch 55 1 3 #[25, 35, 45], 25) := by decide +kernel
theorem dX6_toldOfHeap_36 : decode cX6_toldOfHeap 36 = .ok (.aload_n 0, 1) := by decide +kernel
theorem dX6_toldOfHeap_37 : decode cX6_toldOfHeap 37 = .ok (.getfield 12, 3) := by decide +kernel
theorem dX6_toldOfHeap_40 : decode cX6_toldOfHeap 40 = .ok (.getfield 83, 3) := by decide +kernel
theorem dX6_toldOfHeap_43 : decode cX6_toldOfHeap 43 = .ok (.iload_n 2, 1) := by decide +kernel
theorem dX6_toldOfHeap_44 : decode cX6_toldOfHeap 44 = .ok (.iaload, 1) := by decide +kernel
theorem dX6_toldOfHeap_45 : decode cX6_toldOfHeap 45 = .ok (.ireturn, 1) := by decide +kernel
theorem dX6_toldOfHeap_46 : decode cX6_toldOfHeap 46 = .ok (.aload_n 0, 1) := by decide +kernel
theorem dX6_toldOfHeap_47 : decode cX6_toldOfHeap 47 = .ok (.getfield 12, 3) := by decide +kernel
theorem dX6_toldOfHeap_50 : decode cX6_toldOfHeap 50 = .ok (.getfield 140, 3) := by decide +kernel
theorem dX6_toldOfHeap_53 : decode cX6_toldOfHeap 53 = .ok (.iload_n 2, 1) := by decide +kernel
theorem dX6_toldOfHeap_54 : decode cX6_toldOfHeap 54 = .ok (.iaload, 1) := by decide +kernel
theorem dX6_toldOfHeap_55 : decode cX6_toldOfHeap 55 = .ok (.ireturn, 1) := by decide +kernel
theorem dX6_toldOfHeap_56 : decode cX6_toldOfHeap 56 = .ok (.aload_n 0, 1) := by decide +kernel
theorem dX6_toldOfHeap_57 : decode cX6_toldOfHeap 57 = .ok (.getfield 12, 3) := by decide +kernel
theorem dX6_toldOfHeap_60 : decode cX6_toldOfHeap 60 = .ok (.getfield 143, 3) := by decide +kernel
theorem dX6_toldOfHeap_63 : decode cX6_toldOfHeap 63 = .ok (.iload_n 2, 1) := by decide +kernel
theorem dX6_toldOfHeap_64 : decode cX6_toldOfHeap 64 = .ok (.iaload, 1) := by decide +kernel
theorem dX6_toldOfHeap_65 : decode cX6_toldOfHeap 65 = .ok (.ireturn, 1) := by decide +kernel
theorem dX6_toldOfHeap_66 : decode cX6_toldOfHeap 66 = .ok (.bipush (-2), 2) := by decide +kernel
theorem dX6_toldOfHeap_68 : decode cX6_toldOfHeap 68 = .ok (.ireturn, 1) := by decide +kernel
theorem dX6_isIn_0 : decode cX6_isIn 0 = .ok (.lload_n 0, 1) := by decide +kernel
theorem dX6_isIn_1 : decode cX6_isIn 1 = .ok (.lload_n 2, 1) := by decide +kernel
theorem dX6_isIn_2 : decode cX6_isIn 2 = .ok (.lcmp, 1) := by decide +kernel
theorem dX6_isIn_3 : decode cX6_isIn 3 = .ok (.ifCond .lt 14, 3) := by decide +kernel
theorem dX6_isIn_6 : decode cX6_isIn 6 = .ok (.lload_n 0, 1) := by decide +kernel
theorem dX6_isIn_7 : decode cX6_isIn 7 = .ok (.lload 4, 2) := by decide +kernel
theorem dX6_isIn_9 : decode cX6_isIn 9 = .ok (.lcmp, 1) := by decide +kernel
theorem dX6_isIn_10 : decode cX6_isIn 10 = .ok (.ifCond .gt 7, 3) := by decide +kernel
theorem dX6_isIn_13 : decode cX6_isIn 13 = .ok (.iconst 1, 1) := by decide +kernel
theorem dX6_isIn_14 : decode cX6_isIn 14 = .ok (.goto 4, 3) := by decide +kernel
theorem dX6_isIn_17 : decode cX6_isIn 17 = .ok (.iconst 0, 1) := by decide +kernel
theorem dX6_isIn_18 : decode cX6_isIn 18 = .ok (.ireturn, 1) := by decide +kernel
theorem dX6_isHeap_0 : decode cX6_isHeap 0 = .ok (.iload_n 0, 1) := by decide +kernel
theorem dX6_isHeap_1 : decode cX6_isHeap 1 = .ok (.i2l, 1) := by decide +kernel
theorem dX6_isHeap_2 : decode cX6_isHeap 2 = .ok (.lconst 0, 1) := by decide +kernel
theorem dX6_isHeap_3 : decode cX6_isHeap 3 = .ok (.ldc2_w 284, 3) := by decide +kernel
theorem dX6_isHeap_6 : decode cX6_isHeap 6 = .ok (.invokestatic 73, 3) := by decide +kernel
theorem dX6_isHeap_9 : decode cX6_isHeap 9 = .ok (.ireturn, 1) := by decide +kernel
theorem dX6_hasBit_0 : decode cX6_hasBit 0 = .ok (.iload_n 0, 1) := by decide +kernel
theorem dX6_hasBit_1 : decode cX6_hasBit 1 = .ok (.iload_n 1, 1) := by decide +kernel
theorem dX6_hasBit_2 : decode cX6_hasBit 2 = .ok (.ishr, 1) := by decide +kernel
theorem dX6_hasBit_3 : decode cX6_hasBit 3 = .ok (.iconst 1, 1) := by decide +kernel
theorem dX6_hasBit_4 : decode cX6_hasBit 4 = .ok (.iand, 1) := by decide +kernel
theorem dX6_hasBit_5 : decode cX6_hasBit 5 = .ok (.ifCond .eq 7, 3) := by decide +kernel
theorem dX6_hasBit_8 : decode cX6_hasBit 8 = .ok (.iconst 1, 1) := by decide +kernel
theorem dX6_hasBit_9 : decode cX6_hasBit 9 = .ok (.goto 4, 3) := by decide +kernel
theorem dX6_hasBit_12 : decode cX6_hasBit 12 = .ok (.iconst 0, 1) := by decide +kernel
theorem dX6_hasBit_13 : decode cX6_hasBit 13 = .ok (.ireturn, 1) := by decide +kernel
theorem dJ6_bitCount_0f7a4_0 : decode cJ6_bitCount_0f7a4 0 = .ok (.iload_n 0, 1) := by decide +kernel
theorem dJ6_bitCount_0f7a4_1 : decode cJ6_bitCount_0f7a4 1 = .ok (.iload_n 0, 1) := by decide +kernel
theorem dJ6_bitCount_0f7a4_2 : decode cJ6_bitCount_0f7a4 2 = .ok (.iconst 1, 1) := by decide +kernel
theorem dJ6_bitCount_0f7a4_3 : decode cJ6_bitCount_0f7a4 3 = .ok (.iushr, 1) := by decide +kernel
theorem dJ6_bitCount_0f7a4_4 : decode cJ6_bitCount_0f7a4 4 = .ok (.ldc_w 265, 3) := by decide +kernel
theorem dJ6_bitCount_0f7a4_7 : decode cJ6_bitCount_0f7a4 7 = .ok (.iand, 1) := by decide +kernel
theorem dJ6_bitCount_0f7a4_8 : decode cJ6_bitCount_0f7a4 8 = .ok (.isub, 1) := by decide +kernel
theorem dJ6_bitCount_0f7a4_9 : decode cJ6_bitCount_0f7a4 9 = .ok (.istore_n 0, 1) := by decide +kernel
theorem dJ6_bitCount_0f7a4_10 : decode cJ6_bitCount_0f7a4 10 = .ok (.iload_n 0, 1) := by decide +kernel
theorem dJ6_bitCount_0f7a4_11 : decode cJ6_bitCount_0f7a4 11 = .ok (.ldc_w 266, 3) := by decide +kernel
theorem dJ6_bitCount_0f7a4_14 : decode cJ6_bitCount_0f7a4 14 = .ok (.iand, 1) := by decide +kernel
theorem dJ6_bitCount_0f7a4_15 : decode cJ6_bitCount_0f7a4 15 = .ok (.iload_n 0, 1) := by decide +kernel
theorem dJ6_bitCount_0f7a4_16 : decode cJ6_bitCount_0f7a4 16 = .ok (.iconst 2, 1) := by decide +kernel
theorem dJ6_bitCount_0f7a4_17 : decode cJ6_bitCount_0f7a4 17 = .ok (.iushr, 1) := by decide +kernel
theorem dJ6_bitCount_0f7a4_18 : decode cJ6_bitCount_0f7a4 18 = .ok (.ldc_w 266, 3) := by decide +kernel
theorem dJ6_bitCount_0f7a4_21 : decode cJ6_bitCount_0f7a4 21 = .ok (.iand, 1) := by decide +kernel
theorem dJ6_bitCount_0f7a4_22 : decode cJ6_bitCount_0f7a4 22 = .ok (.iadd, 1) := by decide +kernel
theorem dJ6_bitCount_0f7a4_23 : decode cJ6_bitCount_0f7a4 23 = .ok (.istore_n 0, 1) := by decide +kernel
theorem dJ6_bitCount_0f7a4_24 : decode cJ6_bitCount_0f7a4 24 = .ok (.iload_n 0, 1) := by decide +kernel
theorem dJ6_bitCount_0f7a4_25 : decode cJ6_bitCount_0f7a4 25 = .ok (.iload_n 0, 1) := by decide +kernel
theorem dJ6_bitCount_0f7a4_26 : decode cJ6_bitCount_0f7a4 26 = .ok (.iconst 4, 1) := by decide +kernel
theorem dJ6_bitCount_0f7a4_27 : decode cJ6_bitCount_0f7a4 27 = .ok (.iushr, 1) := by decide +kernel
theorem dJ6_bitCount_0f7a4_28 : decode cJ6_bitCount_0f7a4 28 = .ok (.iadd, 1) := by decide +kernel
theorem dJ6_bitCount_0f7a4_29 : decode cJ6_bitCount_0f7a4 29 = .ok (.ldc_w 267, 3) := by decide +kernel
theorem dJ6_bitCount_0f7a4_32 : decode cJ6_bitCount_0f7a4 32 = .ok (.iand, 1) := by decide +kernel
theorem dJ6_bitCount_0f7a4_33 : decode cJ6_bitCount_0f7a4 33 = .ok (.istore_n 0, 1) := by decide +kernel
theorem dJ6_bitCount_0f7a4_34 : decode cJ6_bitCount_0f7a4 34 = .ok (.iload_n 0, 1) := by decide +kernel
theorem dJ6_bitCount_0f7a4_35 : decode cJ6_bitCount_0f7a4 35 = .ok (.iload_n 0, 1) := by decide +kernel
theorem dJ6_bitCount_0f7a4_36 : decode cJ6_bitCount_0f7a4 36 = .ok (.bipush 8, 2) := by decide +kernel
theorem dJ6_bitCount_0f7a4_38 : decode cJ6_bitCount_0f7a4 38 = .ok (.iushr, 1) := by decide +kernel
theorem dJ6_bitCount_0f7a4_39 : decode cJ6_bitCount_0f7a4 39 = .ok (.iadd, 1) := by decide +kernel
theorem dJ6_bitCount_0f7a4_40 : decode cJ6_bitCount_0f7a4 40 = .ok (.istore_n 0, 1) := by decide +kernel
theorem dJ6_bitCount_0f7a4_41 : decode cJ6_bitCount_0f7a4 41 = .ok (.iload_n 0, 1) := by decide +kernel
theorem dJ6_bitCount_0f7a4_42 : decode cJ6_bitCount_0f7a4 42 = .ok (.iload_n 0, 1) := by decide +kernel
theorem dJ6_bitCount_0f7a4_43 : decode cJ6_bitCount_0f7a4 43 = .ok (.bipush 16, 2) := by decide +kernel
theorem dJ6_bitCount_0f7a4_45 : decode cJ6_bitCount_0f7a4 45 = .ok (.iushr, 1) := by decide +kernel
theorem dJ6_bitCount_0f7a4_46 : decode cJ6_bitCount_0f7a4 46 = .ok (.iadd, 1) := by decide +kernel
theorem dJ6_bitCount_0f7a4_47 : decode cJ6_bitCount_0f7a4 47 = .ok (.istore_n 0, 1) := by decide +kernel
theorem dJ6_bitCount_0f7a4_48 : decode cJ6_bitCount_0f7a4 48 = .ok (.iload_n 0, 1) := by decide +kernel
theorem dJ6_bitCount_0f7a4_49 : decode cJ6_bitCount_0f7a4 49 = .ok (.bipush 63, 2) := by decide +kernel
theorem dJ6_bitCount_0f7a4_51 : decode cJ6_bitCount_0f7a4 51 = .ok (.iand, 1) := by decide +kernel
theorem dJ6_bitCount_0f7a4_52 : decode cJ6_bitCount_0f7a4 52 = .ok (.ireturn, 1) := by decide +kernel
theorem dJ9_floorMod_7cf53_0 : decode cJ9_floorMod_7cf53 0 = .ok (.iload_n 0, 1) := by decide +kernel
theorem dJ9_floorMod_7cf53_1 : decode cJ9_floorMod_7cf53 1 = .ok (.iload_n 1, 1) := by decide +kernel
theorem dJ9_floorMod_7cf53_2 : decode cJ9_floorMod_7cf53 2 = .ok (.irem, 1) := by decide +kernel
theorem dJ9_floorMod_7cf53_3 : decode cJ9_floorMod_7cf53 3 = .ok (.istore_n 2, 1) := by decide +kernel
theorem dJ9_floorMod_7cf53_4 : decode cJ9_floorMod_7cf53 4 = .ok (.iload_n 0, 1) := by decide +kernel
theorem dJ9_floorMod_7cf53_5 : decode cJ9_floorMod_7cf53 5 = .ok (.iload_n 1, 1) := by decide +kernel
theorem dJ9_floorMod_7cf53_6 : decode cJ9_floorMod_7cf53 6 = .ok (.ixor, 1) := by decide +kernel
theorem dJ9_floorMod_7cf53_7 : decode cJ9_floorMod_7cf53 7 = .ok (.ifCond .ge 11, 3) := by decide +kernel
theorem dJ9_floorMod_7cf53_10 : decode cJ9_floorMod_7cf53 10 = .ok (.iload_n 2, 1) := by decide +kernel
theorem dJ9_floorMod_7cf53_11 : decode cJ9_floorMod_7cf53 11 = .ok (.ifCond .eq 7, 3) := by decide +kernel
theorem dJ9_floorMod_7cf53_14 : decode cJ9_floorMod_7cf53 14 = .ok (.iload_n 2, 1) := by decide +kernel
theorem dJ9_floorMod_7cf53_15 : decode cJ9_floorMod_7cf53 15 = .ok (.iload_n 1, 1) := by decide +kernel
theorem dJ9_floorMod_7cf53_16 : decode cJ9_floorMod_7cf53 16 = .ok (.iadd, 1) := by decide +kernel
theorem dJ9_floorMod_7cf53_17 : decode cJ9_floorMod_7cf53 17 = .ok (.ireturn, 1) := by decide +kernel
theorem dJ9_floorMod_7cf53_18 : decode cJ9_floorMod_7cf53 18 = .ok (.iload_n 2, 1) := by decide +kernel
theorem dJ9_floorMod_7cf53_19 : decode cJ9_floorMod_7cf53 19 = .ok (.ireturn, 1) := by decide +kernel
theorem dJ9_abs_0f7a4_0 : decode cJ9_abs_0f7a4 0 = .ok (.iload_n 0, 1) := by decide +kernel
theorem dJ9_abs_0f7a4_1 : decode cJ9_abs_0f7a4 1 = .ok (.ifCond .ge 8, 3) := by decide +kernel
theorem dJ9_abs_0f7a4_4 : decode cJ9_abs_0f7a4 4 = .ok (.iload_n 0, 1) := by decide +kernel
theorem dJ9_abs_0f7a4_5 : decode cJ9_abs_0f7a4 5 = .ok (.ineg, 1) := by decide +kernel
theorem dJ9_abs_0f7a4_6 : decode cJ9_abs_0f7a4 6 = .ok (.goto 4, 3) := by decide +kernel
theorem dJ9_abs_0f7a4_9 : decode cJ9_abs_0f7a4 9 = .ok (.iload_n 0, 1) := by decide +kernel
theorem dJ9_abs_0f7a4_10 : decode cJ9_abs_0f7a4 10 = .ok (.ireturn, 1) := by decide +kernel
theorem dJ9_max_7cf53_0 : decode cJ9_max_7cf53 0 = .ok (.iload_n 0, 1) := by decide +kernel
theorem dJ9_max_7cf53_1 : decode cJ9_max_7cf53 1 = .ok (.iload_n 1, 1) := by decide +kernel
theorem dJ9_max_7cf53_2 : decode cJ9_max_7cf53 2 = .ok (.if_icmp .lt 7, 3) := by decide +kernel
theorem dJ9_max_7cf53_5 : decode cJ9_max_7cf53 5 = .ok (.iload_n 0, 1) := by decide +kernel
theorem dJ9_max_7cf53_6 : decode cJ9_max_7cf53 6 = .ok (.goto 4, 3) := by decide +kernel
theorem dJ9_max_7cf53_9 : decode cJ9_max_7cf53 9 = .ok (.iload_n 1, 1) := by decide +kernel
theorem dJ9_max_7cf53_10 : decode cJ9_max_7cf53 10 = .ok (.ireturn, 1) := by decide +kernel
theorem dJ9_min_7cf53_0 : decode cJ9_min_7cf53 0 = .ok (.iload_n 0, 1) := by decide +kernel
theorem dJ9_min_7cf53_1 : decode cJ9_min_7cf53 1 = .ok (.iload_n 1, 1) := by decide +kernel
theorem dJ9_min_7cf53_2 : decode cJ9_min_7cf53 2 = .ok (.if_icmp .gt 7, 3) := by decide +kernel
theorem dJ9_min_7cf53_5 : decode cJ9_min_7cf53 5 = .ok (.iload_n 0, 1) := by decide +kernel
theorem dJ9_min_7cf53_6 : decode cJ9_min_7cf53 6 = .ok (.goto 4, 3) := by decide +kernel
theorem dJ9_min_7cf53_9 : decode cJ9_min_7cf53 9 = .ok (.iload_n 1, 1) := by decide +kernel
theorem dJ9_min_7cf53_10 : decode cJ9_min_7cf53 10 = .ok (.ireturn, 1) := by decide +kernel
