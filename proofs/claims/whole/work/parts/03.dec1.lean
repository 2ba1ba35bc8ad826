theorem dX3_control_7 : decode cX3_control 7 = .ok (.aload_n 0, 1) := by decide +kernel
theorem dX3_control_8 : decode cX3_control 8 = .ok (.getfield 23, 3) := by decide +kernel
theorem dX3_control_11 : decode cX3_control 11 = .ok (.invokevirtual 305, 3) := by decide +kernel
theorem dX3_control_14 : decode cX3_control 14 = .ok (.ireturn, 1) := by decide +kernel
theorem dX3_control_15 : decode cX3_control 15 = .ok (.aload_n 0, 1) := by decide +kernel
theorem dX3_control_16 : decode cX3_control 16 = .ok (.getfield 40, 3) := by decide +kernel
theorem dX3_control_19 : decode cX3_control 19 = .ok (.aload_n 0, 1) := by decide +kernel
theorem dX3_control_20 : decode cX3_control 20 = .ok (.getfield 23, 3) := by decide +kernel
theorem dX3_control_23 : decode cX3_control 23 = .ok (.iconst 0, 1) := by decide +kernel
theorem dX3_control_24 : decode cX3_control 24 = .ok (.invokevirtual 212, 3) := by decide +kernel
theorem dX3_control_27 : decode cX3_control 27 = .ok (.invokevirtual 184, 3) := by decide +kernel
theorem dX3_control_30 : decode cX3_control 30 = .ok (.ifCond .ne 6, 3) := by decide +kernel
theorem dX3_control_33 : decode cX3_control 33 = .ok (.bipush (-9), 2) := by decide +kernel
theorem dX3_control_35 : decode cX3_control 35 = .ok (.ireturn, 1) := by decide +kernel
theorem dX3_control_36 : decode cX3_control 36 = .ok (.aload_n 1, 1) := by decide +kernel
theorem dX3_control_37 : decode cX3_control 37 = .ok (.getstatic 370, 3) := by decide +kernel
theorem dX3_control_40 : decode cX3_control 40 = .ok (.if_acmp .ne 39, 3) := by decide +kernel
theorem dX3_control_43 : decode cX3_control 43 = .ok (.aload_n 0, 1) := by decide +kernel
theorem dX3_control_44 : decode cX3_control 44 = .ok (.getfield 47, 3) := by decide +kernel
theorem dX3_control_47 : decode cX3_control 47 = .ok (.invokevirtual 267, 3) := by decide +kernel
theorem dX3_control_50 : decode cX3_control 50 = .ok (.ifCond .eq 6, 3) := by decide +kernel
theorem dX3_control_53 : decode cX3_control 53 = .ok (.bipush (-5), 2) := by decide +kernel
theorem dX3_control_55 : decode cX3_control 55 = .ok (.ireturn, 1) := by decide +kernel
theorem dX3_control_56 : decode cX3_control 56 = .ok (.aload_n 0, 1) := by decide +kernel
theorem dX3_control_57 : decode cX3_control 57 = .ok (.getfield 47, 3) := by decide +kernel
theorem dX3_control_60 : decode cX3_control 60 = .ok (.aload_n 0, 1) := by decide +kernel
theorem dX3_control_61 : decode cX3_control 61 = .ok (.getfield 23, 3) := by decide +kernel
theorem dX3_control_64 : decode cX3_control 64 = .ok (.getfield 144, 3) := by decide +kernel
theorem dX3_control_67 : decode cX3_control 67 = .ok (.iconst 1, 1) := by decide +kernel
theorem dX3_control_68 : decode cX3_control 68 = .ok (.isub, 1) := by decide +kernel
theorem dX3_control_69 : decode cX3_control 69 = .ok (.aload_n 0, 1) := by decide +kernel
theorem dX3_control_70 : decode cX3_control 70 = .ok (.getfield 27, 3) := by decide +kernel
theorem dX3_control_73 : decode cX3_control 73 = .ok (.getfield 144, 3) := by decide +kernel
theorem dX3_control_76 : decode cX3_control 76 = .ok (.invokevirtual 373, 3) := by decide +kernel
theorem dX3_control_79 : decode cX3_control 79 = .ok (.aload_n 0, 1) := by decide +kernel
theorem dX3_control_80 : decode cX3_control 80 = .ok (.aload_n 0, 1) := by decide +kernel
theorem dX3_control_81 : decode cX3_control 81 = .ok (.getfield 23, 3) := by decide +kernel
theorem dX3_control_84 : decode cX3_control 84 = .ok (.invokevirtual 305, 3) := by decide +kernel
theorem dX3_control_87 : decode cX3_control 87 = .ok (.putfield 67, 3) := by decide +kernel
theorem dX3_control_90 : decode cX3_control 90 = .ok (.iconst 0, 1) := by decide +kernel
theorem dX3_control_91 : decode cX3_control 91 = .ok (.ireturn, 1) := by decide +kernel
theorem dX4_init_0 : decode cX4_init 0 = .ok (.aload_n 0, 1) := by decide +kernel
theorem dX4_init_1 : decode cX4_init 1 = .ok (.invokespecial 3, 3) := by decide +kernel
theorem dX4_init_4 : decode cX4_init 4 = .ok (.aload_n 0, 1) := by decide +kernel
theorem dX4_init_5 : decode cX4_init 5 = .ok (.new 9, 3) := by decide +kernel
theorem dX4_init_8 : decode cX4_init 8 = .ok (.dup, 1) := by decide +kernel
theorem dX4_init_9 : decode cX4_init 9 = .ok (.invokespecial 11, 3) := by decide +kernel
theorem dX4_init_12 : decode cX4_init 12 = .ok (.putfield 12, 3) := by decide +kernel
theorem dX4_init_15 : decode cX4_init 15 = .ok (.aload_n 0, 1) := by decide +kernel
theorem dX4_init_16 : decode cX4_init 16 = .ok (.aload_n 1, 1) := by decide +kernel
theorem dX4_init_17 : decode cX4_init 17 = .ok (.putfield 18, 3) := by decide +kernel
theorem dX4_init_20 : decode cX4_init 20 = .ok (.aload_n 0, 1) := by decide +kernel
theorem dX4_init_21 : decode cX4_init 21 = .ok (.aload_n 2, 1) := by decide +kernel
theorem dX4_init_22 : decode cX4_init 22 = .ok (.putfield 22, 3) := by decide +kernel
theorem dX4_init_25 : decode cX4_init 25 = .ok (.aload_n 0, 1) := by decide +kernel
theorem dX4_init_26 : decode cX4_init 26 = .ok (.aload_n 3, 1) := by decide +kernel
theorem dX4_init_27 : decode cX4_init 27 = .ok (.putfield 26, 3) := by decide +kernel
theorem dX4_init_30 : decode cX4_init 30 = .ok (.aload_n 0, 1) := by decide +kernel
theorem dX4_init_31 : decode cX4_init 31 = .ok (.aload 4, 2) := by decide +kernel
theorem dX4_init_33 : decode cX4_init 33 = .ok (.putfield 30, 3) := by decide +kernel
theorem dX4_init_36 : decode cX4_init 36 = .ok (.return_, 1) := by decide +kernel
theorem dX4_giveUp_0 : decode cX4_giveUp 0 = .ok (.aload_n 0, 1) := by decide +kernel
theorem dX4_giveUp_1 : decode cX4_giveUp 1 = .ok (.iconst 0, 1) := by decide +kernel
theorem dX4_giveUp_2 : decode cX4_giveUp 2 = .ok (.putfield 34, 3) := by decide +kernel
theorem dX4_giveUp_5 : decode cX4_giveUp 5 = .ok (.aload_n 0, 1) := by decide +kernel
theorem dX4_giveUp_6 : decode cX4_giveUp 6 = .ok (.getfield 12, 3) := by decide +kernel
theorem dX4_giveUp_9 : decode cX4_giveUp 9 = .ok (.iconst 0, 1) := by decide +kernel
theorem dX4_giveUp_10 : decode cX4_giveUp 10 = .ok (.putfield 38, 3) := by decide +kernel
theorem dX4_giveUp_13 : decode cX4_giveUp 13 = .ok (.aload_n 0, 1) := by decide +kernel
theorem dX4_giveUp_14 : decode cX4_giveUp 14 = .ok (.getfield 30, 3) := by decide +kernel
theorem dX4_giveUp_17 : decode cX4_giveUp 17 = .ok (.invokevirtual 42, 3) := by decide +kernel
theorem dX4_giveUp_20 : decode cX4_giveUp 20 = .ok (.ifCond .eq 38, 3) := by decide +kernel
theorem dX4_giveUp_23 : decode cX4_giveUp 23 = .ok (.aload_n 0, 1) := by decide +kernel
theorem dX4_giveUp_24 : decode cX4_giveUp 24 = .ok (.getfield 30, 3) := by decide +kernel
theorem dX4_giveUp_27 : decode cX4_giveUp 27 = .ok (.dup, 1) := by decide +kernel
theorem dX4_giveUp_28 : decode cX4_giveUp 28 = .ok (.getfield 48, 3) := by decide +kernel
theorem dX4_giveUp_31 : decode cX4_giveUp 31 = .ok (.iconst 1, 1) := by decide +kernel
theorem dX4_giveUp_32 : decode cX4_giveUp 32 = .ok (.isub, 1) := by decide +kernel
theorem dX4_giveUp_33 : decode cX4_giveUp 33 = .ok (.putfield 48, 3) := by decide +kernel
theorem dX4_giveUp_36 : decode cX4_giveUp 36 = .ok (.aload_n 0, 1) := by decide +kernel
theorem dX4_giveUp_37 : decode cX4_giveUp 37 = .ok (.getfield 26, 3) := by decide +kernel
theorem dX4_giveUp_40 : decode cX4_giveUp 40 = .ok (.aload_n 0, 1) := by decide +kernel
theorem dX4_giveUp_41 : decode cX4_giveUp 41 = .ok (.getfield 30, 3) := by decide +kernel
theorem dX4_giveUp_44 : decode cX4_giveUp 44 = .ok (.getfield 49, 3) := by decide +kernel
theorem dX4_giveUp_47 : decode cX4_giveUp 47 = .ok (.aload_n 0, 1) := by decide +kernel
theorem dX4_giveUp_48 : decode cX4_giveUp 48 = .ok (.getfield 30, 3) := by decide +kernel
theorem dX4_giveUp_51 : decode cX4_giveUp 51 = .ok (.getfield 48, 3) := by decide +kernel
theorem dX4_giveUp_54 : decode cX4_giveUp 54 = .ok (.iaload, 1) := by decide +kernel
theorem dX4_giveUp_55 : decode cX4_giveUp 55 = .ok (.putfield 53, 3) := by decide +kernel
theorem dX4_giveUp_58 : decode cX4_giveUp 58 = .ok (.return_, 1) := by decide +kernel
theorem dX4_define_0 : decode cX4_define 0 = .ok (.aload_n 0, 1) := by decide +kernel
theorem dX4_define_1 : decode cX4_define 1 = .ok (.getfield 30, 3) := by decide +kernel
theorem dX4_define_4 : decode cX4_define 4 = .ok (.invokevirtual 42, 3) := by decide +kernel
theorem dX4_define_7 : decode cX4_define 7 = .ok (.ifCond .eq 6, 3) := by decide +kernel
theorem dX4_define_10 : decode cX4_define 10 = .ok (.bipush (-29), 2) := by decide +kernel
theorem dX4_define_12 : decode cX4_define 12 = .ok (.ireturn, 1) := by decide +kernel
theorem dX4_define_13 : decode cX4_define 13 = .ok (.aload_n 0, 1) := by decide +kernel
theorem dX4_define_14 : decode cX4_define 14 = .ok (.getfield 18, 3) := by decide +kernel
theorem dX4_define_17 : decode cX4_define 17 = .ok (.invokevirtual 58, 3) := by decide +kernel
theorem dX4_define_20 : decode cX4_define 20 = .ok (.istore_n 2, 1) := by decide +kernel
theorem dX4_define_21 : decode cX4_define 21 = .ok (.iload_n 2, 1) := by decide +kernel
theorem dX4_define_22 : decode cX4_define 22 = .ok (.ifCond .eq 5, 3) := by decide +kernel
theorem dX4_define_25 : decode cX4_define 25 = .ok (.iload_n 2, 1) := by decide +kernel
theorem dX4_define_26 : decode cX4_define 26 = .ok (.ireturn, 1) := by decide +kernel
theorem dX4_define_27 : decode cX4_define 27 = .ok (.aload_n 0, 1) := by decide +kernel
theorem dX4_define_28 : decode cX4_define 28 = .ok (.getfield 30, 3) := by decide +kernel
theorem dX4_define_31 : decode cX4_define 31 = .ok (.invokevirtual 64, 3) := by decide +kernel
theorem dX4_define_34 : decode cX4_define 34 = .ok (.ifCond .ne 17, 3) := by decide +kernel
theorem dX4_define_37 : decode cX4_define 37 = .ok (.aload_n 0, 1) := by decide +kernel
theorem dX4_define_38 : decode cX4_define 38 = .ok (.getfield 26, 3) := by decide +kernel
theorem dX4_define_41 : decode cX4_define 41 = .ok (.aload_n 1, 1) := by decide +kernel
theorem dX4_define_42 : decode cX4_define 42 = .ok (.getfield 67, 3) := by decide +kernel
theorem dX4_define_45 : decode cX4_define 45 = .ok (.invokevirtual 72, 3) := by decide +kernel
theorem dX4_define_48 : decode cX4_define 48 = .ok (.ifCond .ne 6, 3) := by decide +kernel
theorem dX4_define_51 : decode cX4_define 51 = .ok (.bipush (-8), 2) := by decide +kernel
theorem dX4_define_53 : decode cX4_define 53 = .ok (.ireturn, 1) := by decide +kernel
theorem dX4_define_54 : decode cX4_define 54 = .ok (.aload_n 0, 1) := by decide +kernel
theorem dX4_define_55 : decode cX4_define 55 = .ok (.aload_n 1, 1) := by decide +kernel
theorem dX4_define_56 : decode cX4_define 56 = .ok (.invokevirtual 76, 3) := by decide +kernel
theorem dX4_define_59 : decode cX4_define 59 = .ok (.iconst 0, 1) := by decide +kernel
theorem dX4_define_60 : decode cX4_define 60 = .ok (.ireturn, 1) := by decide +kernel
theorem dX4_begin_0 : decode cX4_begin 0 = .ok (.getstatic 80, 3) := by decide +kernel
theorem dX4_begin_3 : decode cX4_begin 3 = .ok (.aload_n 1, 1) := by decide +kernel
theorem dX4_begin_4 : decode cX4_begin 4 = .ok (.invokevirtual 85, 3) := by decide +kernel
theorem dX4_begin_7 : decode cX4_begin 7 = .ok (.iaload, 1) := by decide +kernel
theorem dX4_begin_8 : decode cX4_begin 8 = .ok (.tableswitch 123 1 3 #[28, 55, 92], 28) := by decide +kernel
theorem dX4_begin_36 : decode cX4_begin 36 = .ok (.aload_n 0, 1) := by decide +kernel
theorem dX4_begin_37 : decode cX4_begin 37 = .ok (.getfield 30, 3) := by decide +kernel
theorem dX4_begin_40 : decode cX4_begin 40 = .ok (.aload_n 0, 1) := by decide +kernel
theorem dX4_begin_41 : decode cX4_begin 41 = .ok (.getfield 18, 3) := by decide +kernel
theorem dX4_begin_44 : decode cX4_begin 44 = .ok (.iconst 1, 1) := by decide +kernel
theorem dX4_begin_45 : decode cX4_begin 45 = .ok (.aload_n 0, 1) := by decide +kernel
theorem dX4_begin_46 : decode cX4_begin 46 = .ok (.getfield 26, 3) := by decide +kernel
theorem dX4_begin_49 : decode cX4_begin 49 = .ok (.getfield 53, 3) := by decide +kernel
theorem dX4_begin_52 : decode cX4_begin 52 = .ok (.invokevirtual 88, 3) := by decide +kernel
theorem dX4_begin_55 : decode cX4_begin 55 = .ok (.aload_n 0, 1) := by decide +kernel
theorem dX4_begin_56 : decode cX4_begin 56 = .ok (.iconst 1, 1) := by decide +kernel
theorem dX4_begin_57 : decode cX4_begin 57 = .ok (.putfield 34, 3) := by decide +kernel
theorem dX4_begin_60 : decode cX4_begin 60 = .ok (.goto 90, 3) := by decide +kernel
theorem dX4_begin_63 : decode cX4_begin 63 = .ok (.aload_n 0, 1) := by decide +kernel
theorem dX4_begin_64 : decode cX4_begin 64 = .ok (.getfield 30, 3) := by decide +kernel
theorem dX4_begin_67 : decode cX4_begin 67 = .ok (.aload_n 0, 1) := by decide +kernel
theorem dX4_begin_68 : decode cX4_begin 68 = .ok (.getfield 18, 3) := by decide +kernel
theorem dX4_begin_71 : decode cX4_begin 71 = .ok (.iconst 3, 1) := by decide +kernel
theorem dX4_begin_72 : decode cX4_begin 72 = .ok (.aload_n 0, 1) := by decide +kernel
theorem dX4_begin_73 : decode cX4_begin 73 = .ok (.getfield 26, 3) := by decide +kernel
theorem dX4_begin_76 : decode cX4_begin 76 = .ok (.getfield 53, 3) := by decide +kernel
theorem dX4_begin_79 : decode cX4_begin 79 = .ok (.invokevirtual 88, 3) := by decide +kernel
theorem dX4_begin_82 : decode cX4_begin 82 = .ok (.aload_n 0, 1) := by decide +kernel
theorem dX4_begin_83 : decode cX4_begin 83 = .ok (.getfield 26, 3) := by decide +kernel
theorem dX4_begin_86 : decode cX4_begin 86 = .ok (.aload_n 0, 1) := by decide +kernel
theorem dX4_begin_87 : decode cX4_begin 87 = .ok (.getfield 22, 3) := by decide +kernel
theorem dX4_begin_90 : decode cX4_begin 90 = .ok (.invokevirtual 92, 3) := by decide +kernel
theorem dX4_begin_93 : decode cX4_begin 93 = .ok (.invokevirtual 97, 3) := by decide +kernel
theorem dX4_begin_96 : decode cX4_begin 96 = .ok (.pop, 1) := by decide +kernel
theorem dX4_begin_97 : decode cX4_begin 97 = .ok (.goto 53, 3) := by decide +kernel
theorem dX4_begin_100 : decode cX4_begin 100 = .ok (.aload_n 0, 1) := by decide +kernel
theorem dX4_begin_101 : decode cX4_begin 101 = .ok (.getfield 30, 3) := by decide +kernel
theorem dX4_begin_104 : decode cX4_begin 104 = .ok (.aload_n 0, 1) := by decide +kernel
theorem dX4_begin_105 : decode cX4_begin 105 = .ok (.getfield 18, 3) := by decide +kernel
theorem dX4_begin_108 : decode cX4_begin 108 = .ok (.iconst 2, 1) := by decide +kernel
theorem dX4_begin_109 : decode cX4_begin 109 = .ok (.aload_n 0, 1) := by decide +kernel
theorem dX4_begin_110 : decode cX4_begin 110 = .ok (.getfield 26, 3) := by decide +kernel
theorem dX4_begin_113 : decode cX4_begin 113 = .ok (.getfield 53, 3) := by decide +kernel
theorem dX4_begin_116 : decode cX4_begin 116 = .ok (.invokevirtual 88, 3) := by decide +kernel
theorem dX4_begin_119 : decode cX4_begin 119 = .ok (.aload_n 0, 1) := by decide +kernel
theorem dX4_begin_120 : decode cX4_begin 120 = .ok (.getfield 26, 3) := by decide +kernel
theorem dX4_begin_123 : decode cX4_begin 123 = .ok (.iconst 0, 1) := by decide +kernel
theorem dX4_begin_124 : decode cX4_begin 124 = .ok (.invokevirtual 97, 3) := by decide +kernel
theorem dX4_begin_127 : decode cX4_begin 127 = .ok (.pop, 1) := by decide +kernel
theorem dX4_begin_128 : decode cX4_begin 128 = .ok (.goto 22, 3) := by decide +kernel
theorem dX4_begin_131 : decode cX4_begin 131 = .ok (.aload_n 0, 1) := by decide +kernel
theorem dX4_begin_132 : decode cX4_begin 132 = .ok (.getfield 30, 3) := by decide +kernel
theorem dX4_begin_135 : decode cX4_begin 135 = .ok (.aload_n 0, 1) := by decide +kernel
theorem dX4_begin_136 : decode cX4_begin 136 = .ok (.getfield 18, 3) := by decide +kernel
theorem dX4_begin_139 : decode cX4_begin 139 = .ok (.iconst 2, 1) := by decide +kernel
theorem dX4_begin_140 : decode cX4_begin 140 = .ok (.aload_n 0, 1) := by decide +kernel
theorem dX4_begin_141 : decode cX4_begin 141 = .ok (.getfield 26, 3) := by decide +kernel
theorem dX4_begin_144 : decode cX4_begin 144 = .ok (.getfield 53, 3) := by decide +kernel
theorem dX4_begin_147 : decode cX4_begin 147 = .ok (.invokevirtual 88, 3) := by decide +kernel
theorem dX4_begin_150 : decode cX4_begin 150 = .ok (.return_, 1) := by decide +kernel
theorem dX4_make_0 : decode cX4_make 0 = .ok (.getstatic 80, 3) := by decide +kernel
theorem dX4_make_3 : decode cX4_make 3 = .ok (.aload_n 1, 1) := by decide +kernel
theorem dX4_make_4 : decode cX4_make 4 = .ok (.invokevirtual 85, 3) := by decide +kernel
theorem dX4_make_7 : decode cX4_make 7 = .ok (.iaload, 1) := by decide +kernel
theorem dX4_make_8 : decode cX4_make 8 = .ok (.lookupswitch 49 #[(4, 28), (5, 36)], 28) := by decide +kernel
theorem dX4_make_36 : decode cX4_make 36 = .ok (.aload_n 0, 1) := by decide +kernel
theorem dX4_make_37 : decode cX4_make 37 = .ok (.getfield 30, 3) := by decide +kernel
theorem dX4_make_40 : decode cX4_make 40 = .ok (.invokevirtual 101, 3) := by decide +kernel
theorem dX4_make_43 : decode cX4_make 43 = .ok (.ireturn, 1) := by decide +kernel
theorem dX4_make_44 : decode cX4_make 44 = .ok (.aload_n 0, 1) := by decide +kernel
theorem dX4_make_45 : decode cX4_make 45 = .ok (.aload_n 0, 1) := by decide +kernel
theorem dX4_make_46 : decode cX4_make 46 = .ok (.getfield 22, 3) := by decide +kernel
theorem dX4_make_49 : decode cX4_make 49 = .ok (.iconst 0, 1) := by decide +kernel
theorem dX4_make_50 : decode cX4_make 50 = .ok (.invokevirtual 104, 3) := by decide +kernel
theorem dX4_make_53 : decode cX4_make 53 = .ok (.invokevirtual 107, 3) := by decide +kernel
theorem dX4_make_56 : decode cX4_make 56 = .ok (.ireturn, 1) := by decide +kernel
theorem dX4_make_57 : decode cX4_make 57 = .ok (.aload_n 0, 1) := by decide +kernel
theorem dX4_make_58 : decode cX4_make 58 = .ok (.invokevirtual 110, 3) := by decide +kernel
theorem dX4_make_61 : decode cX4_make 61 = .ok (.ireturn, 1) := by decide +kernel
theorem dX4_compile_0 : decode cX4_compile 0 = .ok (.aload_n 0, 1) := by decide +kernel
theorem dX4_compile_1 : decode cX4_compile 1 = .ok (.getfield 30, 3) := by decide +kernel
theorem dX4_compile_4 : decode cX4_compile 4 = .ok (.iload_n 1, 1) := by decide +kernel
theorem dX4_compile_5 : decode cX4_compile 5 = .ok (.invokevirtual 113, 3) := by decide +kernel
theorem dX4_compile_8 : decode cX4_compile 8 = .ok (.ifCond .ne 6, 3) := by decide +kernel
theorem dX4_compile_11 : decode cX4_compile 11 = .ok (.bipush (-9), 2) := by decide +kernel
theorem dX4_compile_13 : decode cX4_compile 13 = .ok (.ireturn, 1) := by decide +kernel
theorem dX4_compile_14 : decode cX4_compile 14 = .ok (.aload_n 0, 1) := by decide +kernel
theorem dX4_compile_15 : decode cX4_compile 15 = .ok (.getfield 22, 3) := by decide +kernel
theorem dX4_compile_18 : decode cX4_compile 18 = .ok (.aload_n 0, 1) := by decide +kernel
theorem dX4_compile_19 : decode cX4_compile 19 = .ok (.getfield 26, 3) := by decide +kernel
theorem dX4_compile_22 : decode cX4_compile 22 = .ok (.iload_n 1, 1) := by decide +kernel
theorem dX4_compile_23 : decode cX4_compile 23 = .ok (.invokevirtual 97, 3) := by decide +kernel
theorem dX4_compile_26 : decode cX4_compile 26 = .ok (.invokevirtual 116, 3) := by decide +kernel
theorem dX4_compile_29 : decode cX4_compile 29 = .ok (.ireturn, 1) := by decide +kernel
theorem dX4_goOnCompiling_0 : decode cX4_goOnCompiling 0 = .ok (.aload_n 0, 1) := by decide +kernel
theorem dX4_goOnCompiling_1 : decode cX4_goOnCompiling 1 = .ok (.getfield 30, 3) := by decide +kernel
theorem dX4_goOnCompiling_4 : decode cX4_goOnCompiling 4 = .ok (.invokevirtual 42, 3) := by decide +kernel
theorem dX4_goOnCompiling_7 : decode cX4_goOnCompiling 7 = .ok (.ifCond .ne 6, 3) := by decide +kernel
theorem dX4_goOnCompiling_10 : decode cX4_goOnCompiling 10 = .ok (.bipush (-14), 2) := by decide +kernel
theorem dX4_goOnCompiling_12 : decode cX4_goOnCompiling 12 = .ok (.ireturn, 1) := by decide +kernel
theorem dX4_goOnCompiling_13 : decode cX4_goOnCompiling 13 = .ok (.aload_n 0, 1) := by decide +kernel
theorem dX4_goOnCompiling_14 : decode cX4_goOnCompiling 14 = .ok (.iconst 1, 1) := by decide +kernel
theorem dX4_goOnCompiling_15 : decode cX4_goOnCompiling 15 = .ok (.putfield 34, 3) := by decide +kernel
theorem dX4_goOnCompiling_18 : decode cX4_goOnCompiling 18 = .ok (.iconst 0, 1) := by decide +kernel
theorem dX4_goOnCompiling_19 : decode cX4_goOnCompiling 19 = .ok (.ireturn, 1) := by decide +kernel
theorem dX4_doAtOnce_0 : decode cX4_doAtOnce 0 = .ok (.aload_n 1, 1) := by decide +kernel
theorem dX4_doAtOnce_1 : decode cX4_doAtOnce 1 = .ok (.getstatic 119, 3) := by decide +kernel
theorem dX4_doAtOnce_4 : decode cX4_doAtOnce 4 = .ok (.if_acmp .ne 11, 3) := by decide +kernel
theorem dX4_doAtOnce_7 : decode cX4_doAtOnce 7 = .ok (.aload_n 0, 1) := by decide +kernel
theorem dX4_doAtOnce_8 : decode cX4_doAtOnce 8 = .ok (.iconst 0, 1) := by decide +kernel
theorem dX4_doAtOnce_9 : decode cX4_doAtOnce 9 = .ok (.putfield 34, 3) := by decide +kernel
theorem dX4_doAtOnce_12 : decode cX4_doAtOnce 12 = .ok (.goto 10, 3) := by decide +kernel
theorem dX4_doAtOnce_15 : decode cX4_doAtOnce 15 = .ok (.aload_n 0, 1) := by decide +kernel
theorem dX4_doAtOnce_16 : decode cX4_doAtOnce 16 = .ok (.getfield 18, 3) := by decide +kernel
theorem dX4_doAtOnce_19 : decode cX4_doAtOnce 19 = .ok (.invokevirtual 123, 3) := by decide +kernel
theorem dX4_doAtOnce_22 : decode cX4_doAtOnce 22 = .ok (.iconst 0, 1) := by decide +kernel
theorem dX4_doAtOnce_23 : decode cX4_doAtOnce 23 = .ok (.ireturn, 1) := by decide +kernel
theorem dX4_useNamed_0 : decode cX4_useNamed 0 = .ok (.aload_n 0, 1) := by decide +kernel
theorem dX4_useNamed_1 : decode cX4_useNamed 1 = .ok (.getfield 18, 3) := by decide +kernel
theorem dX4_useNamed_4 : decode cX4_useNamed 4 = .ok (.invokevirtual 58, 3) := by decide +kernel
theorem dX4_useNamed_7 : decode cX4_useNamed 7 = .ok (.istore_n 2, 1) := by decide +kernel
theorem dX4_useNamed_8 : decode cX4_useNamed 8 = .ok (.iload_n 2, 1) := by decide +kernel
theorem dX4_useNamed_9 : decode cX4_useNamed 9 = .ok (.ifCond .eq 5, 3) := by decide +kernel
theorem dX4_useNamed_12 : decode cX4_useNamed 12 = .ok (.iload_n 2, 1) := by decide +kernel
theorem dX4_useNamed_13 : decode cX4_useNamed 13 = .ok (.ireturn, 1) := by decide +kernel
theorem dX4_useNamed_14 : decode cX4_useNamed 14 = .ok (.aload_n 0, 1) := by decide +kernel
theorem dX4_useNamed_15 : decode cX4_useNamed 15 = .ok (.getfield 30, 3) := by decide +kernel
theorem dX4_useNamed_18 : decode cX4_useNamed 18 = .ok (.aload_n 0, 1) := by decide +kernel
theorem dX4_useNamed_19 : decode cX4_useNamed 19 = .ok (.getfield 18, 3) := by decide +kernel
theorem dX4_useNamed_22 : decode cX4_useNamed 22 = .ok (.invokevirtual 126, 3) := by decide +kernel
theorem dX4_useNamed_25 : decode cX4_useNamed 25 = .ok (.istore_n 3, 1) := by decide +kernel
theorem dX4_useNamed_26 : decode cX4_useNamed 26 = .ok (.iload_n 3, 1) := by decide +kernel
theorem dX4_useNamed_27 : decode cX4_useNamed 27 = .ok (.iconst (-1), 1) := by decide +kernel
theorem dX4_useNamed_28 : decode cX4_useNamed 28 = .ok (.if_icmp .ne 6, 3) := by decide +kernel
theorem dX4_useNamed_31 : decode cX4_useNamed 31 = .ok (.bipush (-13), 2) := by decide +kernel
theorem dX4_useNamed_33 : decode cX4_useNamed 33 = .ok (.ireturn, 1) := by decide +kernel
theorem dX4_useNamed_34 : decode cX4_useNamed 34 = .ok (.getstatic 80, 3) := by decide +kernel
theorem dX4_useNamed_37 : decode cX4_useNamed 37 = .ok (.aload_n 1, 1) := by decide +kernel
theorem dX4_useNamed_38 : decode cX4_useNamed 38 = .ok (.invokevirtual 85, 3) := by decide +kernel
theorem dX4_useNamed_41 : decode cX4_useNamed 41 = .ok (.iaload, 1) := by decide +kernel
theorem dX4_useNamed_42 : decode cX4_useNamed 42 = .ok (.lookupswitch 45 #[(6, 26), (7, 35)], 26) := by decide +kernel
theorem dX4_useNamed_68 : decode cX4_useNamed 68 = .ok (.aload_n 0, 1) := by decide +kernel
theorem dX4_useNamed_69 : decode cX4_useNamed 69 = .ok (.getfield 22, 3) := by decide +kernel
theorem dX4_useNamed_72 : decode cX4_useNamed 72 = .ok (.iload_n 3, 1) := by decide +kernel
theorem dX4_useNamed_73 : decode cX4_useNamed 73 = .ok (.invokevirtual 130, 3) := by decide +kernel
theorem dX4_useNamed_76 : decode cX4_useNamed 76 = .ok (.ireturn, 1) := by decide +kernel
theorem dX4_useNamed_77 : decode cX4_useNamed 77 = .ok (.aload_n 0, 1) := by decide +kernel
theorem dX4_useNamed_78 : decode cX4_useNamed 78 = .ok (.getfield 26, 3) := by decide +kernel
theorem dX4_useNamed_81 : decode cX4_useNamed 81 = .ok (.iconst 1, 1) := by decide +kernel
theorem dX4_useNamed_82 : decode cX4_useNamed 82 = .ok (.iload_n 3, 1) := by decide +kernel
theorem dX4_useNamed_83 : decode cX4_useNamed 83 = .ok (.invokevirtual 133, 3) := by decide +kernel
theorem dX4_useNamed_86 : decode cX4_useNamed 86 = .ok (.ireturn, 1) := by decide +kernel
theorem dX4_useNamed_87 : decode cX4_useNamed 87 = .ok (.aload_n 0, 1) := by decide +kernel
theorem dX4_useNamed_88 : decode cX4_useNamed 88 = .ok (.iload_n 3, 1) := by decide +kernel
theorem dX4_useNamed_89 : decode cX4_useNamed 89 = .ok (.invokevirtual 137, 3) := by decide +kernel
theorem dX4_useNamed_92 : decode cX4_useNamed 92 = .ok (.ireturn, 1) := by decide +kernel
theorem dX4_postpone_0 : decode cX4_postpone 0 = .ok (.aload_n 0, 1) := by decide +kernel
theorem dX4_postpone_1 : decode cX4_postpone 1 = .ok (.getfield 30, 3) := by decide +kernel
theorem dX4_postpone_4 : decode cX4_postpone 4 = .ok (.iload_n 1, 1) := by decide +kernel
theorem dX4_postpone_5 : decode cX4_postpone 5 = .ok (.invokevirtual 140, 3) := by decide +kernel
theorem dX4_postpone_8 : decode cX4_postpone 8 = .ok (.ifCond .eq 12, 3) := by decide +kernel
theorem dX4_postpone_11 : decode cX4_postpone 11 = .ok (.aload_n 0, 1) := by decide +kernel
theorem dX4_postpone_12 : decode cX4_postpone 12 = .ok (.getfield 26, 3) := by decide +kernel
theorem dX4_postpone_15 : decode cX4_postpone 15 = .ok (.iload_n 1, 1) := by decide +kernel
theorem dX4_postpone_16 : decode cX4_postpone 16 = .ok (.invokevirtual 97, 3) := by decide +kernel
theorem dX4_postpone_19 : decode cX4_postpone 19 = .ok (.ireturn, 1) := by decide +kernel
theorem dX4_postpone_20 : decode cX4_postpone 20 = .ok (.aload_n 0, 1) := by decide +kernel
theorem dX4_postpone_21 : decode cX4_postpone 21 = .ok (.getfield 26, 3) := by decide +kernel
theorem dX4_postpone_24 : decode cX4_postpone 24 = .ok (.iconst 3, 1) := by decide +kernel
theorem dX4_postpone_25 : decode cX4_postpone 25 = .ok (.invokevirtual 72, 3) := by decide +kernel
theorem dX4_postpone_28 : decode cX4_postpone 28 = .ok (.ifCond .ne 6, 3) := by decide +kernel
theorem dX4_postpone_31 : decode cX4_postpone 31 = .ok (.bipush (-8), 2) := by decide +kernel
theorem dX4_postpone_33 : decode cX4_postpone 33 = .ok (.ireturn, 1) := by decide +kernel
theorem dX4_postpone_34 : decode cX4_postpone 34 = .ok (.aload_n 0, 1) := by decide +kernel
theorem dX4_postpone_35 : decode cX4_postpone 35 = .ok (.getfield 26, 3) := by decide +kernel
theorem dX4_postpone_38 : decode cX4_postpone 38 = .ok (.iconst 1, 1) := by decide +kernel
theorem dX4_postpone_39 : decode cX4_postpone 39 = .ok (.iload_n 1, 1) := by decide +kernel
theorem dX4_postpone_40 : decode cX4_postpone 40 = .ok (.invokevirtual 133, 3) := by decide +kernel
theorem dX4_postpone_43 : decode cX4_postpone 43 = .ok (.pop, 1) := by decide +kernel
theorem dX4_postpone_44 : decode cX4_postpone 44 = .ok (.aload_n 0, 1) := by decide +kernel
theorem dX4_postpone_45 : decode cX4_postpone 45 = .ok (.getfield 26, 3) := by decide +kernel
theorem dX4_postpone_48 : decode cX4_postpone 48 = .ok (.bipush 63, 2) := by decide +kernel
theorem dX4_postpone_50 : decode cX4_postpone 50 = .ok (.invokevirtual 97, 3) := by decide +kernel
theorem dX4_postpone_53 : decode cX4_postpone 53 = .ok (.ireturn, 1) := by decide +kernel
theorem dX4_compileInto_0 : decode cX4_compileInto 0 = .ok (.getstatic 80, 3) := by decide +kernel
theorem dX4_compileInto_3 : decode cX4_compileInto 3 = .ok (.aload_n 1, 1) := by decide +kernel
theorem dX4_compileInto_4 : decode cX4_compileInto 4 = .ok (.invokevirtual 85, 3) := by decide +kernel
theorem dX4_compileInto_7 : decode cX4_compileInto 7 = .ok (.iaload, 1) := by decide +kernel
theorem dX4_compileInto_8 : decode cX4_compileInto 8 = .ok (.tableswitch 67 8 10 #[28, 33, 43], 28) := by decide +kernel
theorem dX4_compileInto_36 : decode cX4_compileInto 36 = .ok (.aload_n 0, 1) := by decide +kernel
theorem dX4_compileInto_37 : decode cX4_compileInto 37 = .ok (.invokevirtual 143, 3) := by decide +kernel
theorem dX4_compileInto_40 : decode cX4_compileInto 40 = .ok (.ireturn, 1) := by decide +kernel
theorem dX4_compileInto_41 : decode cX4_compileInto 41 = .ok (.aload_n 0, 1) := by decide +kernel
theorem dX4_compileInto_42 : decode cX4_compileInto 42 = .ok (.getfield 26, 3) := by decide +kernel
theorem dX4_compileInto_45 : decode cX4_compileInto 45 = .ok (.bipush 7, 2) := by decide +kernel
theorem dX4_compileInto_47 : decode cX4_compileInto 47 = .ok (.invokevirtual 97, 3) := by decide +kernel
theorem dX4_compileInto_50 : decode cX4_compileInto 50 = .ok (.ireturn, 1) := by decide +kernel
theorem dX4_compileInto_51 : decode cX4_compileInto 51 = .ok (.aload_n 0, 1) := by decide +kernel
theorem dX4_compileInto_52 : decode cX4_compileInto 52 = .ok (.getfield 22, 3) := by decide +kernel
theorem dX4_compileInto_55 : decode cX4_compileInto 55 = .ok (.aload_n 0, 1) := by decide +kernel
theorem dX4_compileInto_56 : decode cX4_compileInto 56 = .ok (.getfield 26, 3) := by decide +kernel
theorem dX4_compileInto_59 : decode cX4_compileInto 59 = .ok (.iconst 1, 1) := by decide +kernel
theorem dX4_compileInto_60 : decode cX4_compileInto 60 = .ok (.aload_n 0, 1) := by decide +kernel
theorem dX4_compileInto_61 : decode cX4_compileInto 61 = .ok (.getfield 22, 3) := by decide +kernel
theorem dX4_compileInto_64 : decode cX4_compileInto 64 = .ok (.iconst 0, 1) := by decide +kernel
theorem dX4_compileInto_65 : decode cX4_compileInto 65 = .ok (.invokevirtual 104, 3) := by decide +kernel
theorem dX4_compileInto_68 : decode cX4_compileInto 68 = .ok (.invokevirtual 133, 3) := by decide +kernel
theorem dX4_compileInto_71 : decode cX4_compileInto 71 = .ok (.invokevirtual 116, 3) := by decide +kernel
theorem dX4_compileInto_74 : decode cX4_compileInto 74 = .ok (.ireturn, 1) := by decide +kernel
theorem dX4_compileInto_75 : decode cX4_compileInto 75 = .ok (.aload_n 0, 1) := by decide +kernel
theorem dX4_compileInto_76 : decode cX4_compileInto 76 = .ok (.getfield 26, 3) := by decide +kernel
theorem dX4_compileInto_79 : decode cX4_compileInto 79 = .ok (.aload_n 0, 1) := by decide +kernel
theorem dX4_compileInto_80 : decode cX4_compileInto 80 = .ok (.getfield 30, 3) := by decide +kernel
theorem dX4_compileInto_83 : decode cX4_compileInto 83 = .ok (.invokevirtual 146, 3) := by decide +kernel
theorem dX4_compileInto_86 : decode cX4_compileInto 86 = .ok (.invokevirtual 97, 3) := by decide +kernel
theorem dX4_compileInto_89 : decode cX4_compileInto 89 = .ok (.ireturn, 1) := by decide +kernel
theorem dX4_endColon_0 : decode cX4_endColon 0 = .ok (.aload_n 0, 1) := by decide +kernel
theorem dX4_endColon_1 : decode cX4_endColon 1 = .ok (.getfield 12, 3) := by decide +kernel
theorem dX4_endColon_4 : decode cX4_endColon 4 = .ok (.getfield 38, 3) := by decide +kernel
theorem dX4_endColon_7 : decode cX4_endColon 7 = .ok (.ifCond .le 6, 3) := by decide +kernel
theorem dX4_endColon_10 : decode cX4_endColon 10 = .ok (.bipush (-22), 2) := by decide +kernel
theorem dX4_endColon_12 : decode cX4_endColon 12 = .ok (.ireturn, 1) := by decide +kernel
theorem dX4_endColon_13 : decode cX4_endColon 13 = .ok (.aload_n 0, 1) := by decide +kernel
theorem dX4_endColon_14 : decode cX4_endColon 14 = .ok (.getfield 26, 3) := by decide +kernel
theorem dX4_endColon_17 : decode cX4_endColon 17 = .ok (.iconst 0, 1) := by decide +kernel
theorem dX4_endColon_18 : decode cX4_endColon 18 = .ok (.invokevirtual 97, 3) := by decide +kernel
theorem dX4_endColon_21 : decode cX4_endColon 21 = .ok (.istore_n 1, 1) := by decide +kernel
theorem dX4_endColon_22 : decode cX4_endColon 22 = .ok (.iload_n 1, 1) := by decide +kernel
theorem dX4_endColon_23 : decode cX4_endColon 23 = .ok (.ifCond .ne 15, 3) := by decide +kernel
theorem dX4_endColon_26 : decode cX4_endColon 26 = .ok (.aload_n 0, 1) := by decide +kernel
theorem dX4_endColon_27 : decode cX4_endColon 27 = .ok (.getfield 30, 3) := by decide +kernel
theorem dX4_endColon_30 : decode cX4_endColon 30 = .ok (.invokevirtual 149, 3) := by decide +kernel
theorem dX4_endColon_33 : decode cX4_endColon 33 = .ok (.aload_n 0, 1) := by decide +kernel
theorem dX4_endColon_34 : decode cX4_endColon 34 = .ok (.iconst 0, 1) := by decide +kernel
theorem dX4_endColon_35 : decode cX4_endColon 35 = .ok (.putfield 34, 3) := by decide +kernel
theorem dX4_endColon_38 : decode cX4_endColon 38 = .ok (.iload_n 1, 1) := by decide +kernel
theorem dX4_endColon_39 : decode cX4_endColon 39 = .ok (.ireturn, 1) := by decide +kernel
theorem dX4_structure_0 : decode cX4_structure 0 = .ok (.aload_n 0, 1) := by decide +kernel
theorem dX4_structure_1 : decode cX4_structure 1 = .ok (.aload_n 1, 1) := by decide +kernel
theorem dX4_structure_2 : decode cX4_structure 2 = .ok (.invokevirtual 152, 3) := by decide +kernel
theorem dX4_structure_5 : decode cX4_structure 5 = .ok (.istore_n 2, 1) := by decide +kernel
theorem dX4_structure_6 : decode cX4_structure 6 = .ok (.iload_n 2, 1) := by decide +kernel
theorem dX4_structure_7 : decode cX4_structure 7 = .ok (.ifCond .eq 17, 3) := by decide +kernel
theorem dX4_structure_10 : decode cX4_structure 10 = .ok (.aload_n 0, 1) := by decide +kernel
theorem dX4_structure_11 : decode cX4_structure 11 = .ok (.getfield 12, 3) := by decide +kernel
theorem dX4_structure_14 : decode cX4_structure 14 = .ok (.invokevirtual 156, 3) := by decide +kernel
theorem dX4_structure_17 : decode cX4_structure 17 = .ok (.iload_n 2, 1) := by decide +kernel
theorem dX4_structure_18 : decode cX4_structure 18 = .ok (.if_icmp .eq 6, 3) := by decide +kernel
theorem dX4_structure_21 : decode cX4_structure 21 = .ok (.bipush (-22), 2) := by decide +kernel
theorem dX4_structure_23 : decode cX4_structure 23 = .ok (.ireturn, 1) := by decide +kernel
theorem dX4_structure_24 : decode cX4_structure 24 = .ok (.aload_n 0, 1) := by decide +kernel
theorem dX4_structure_25 : decode cX4_structure 25 = .ok (.aload_n 1, 1) := by decide +kernel
theorem dX4_structure_26 : decode cX4_structure 26 = .ok (.invokevirtual 159, 3) := by decide +kernel
theorem dX4_structure_29 : decode cX4_structure 29 = .ok (.ifCond .eq 16, 3) := by decide +kernel
theorem dX4_structure_32 : decode cX4_structure 32 = .ok (.aload_n 0, 1) := by decide +kernel
theorem dX4_structure_33 : decode cX4_structure 33 = .ok (.getfield 12, 3) := by decide +kernel
theorem dX4_structure_36 : decode cX4_structure 36 = .ok (.invokevirtual 163, 3) := by decide +kernel
theorem dX4_structure_39 : decode cX4_structure 39 = .ok (.ifCond .eq 6, 3) := by decide +kernel
theorem dX4_structure_42 : decode cX4_structure 42 = .ok (.bipush (-22), 2) := by decide +kernel
theorem dX4_structure_44 : decode cX4_structure 44 = .ok (.ireturn, 1) := by decide +kernel
theorem dX4_structure_45 : decode cX4_structure 45 = .ok (.aload_n 0, 1) := by decide +kernel
theorem dX4_structure_46 : decode cX4_structure 46 = .ok (.getfield 26, 3) := by decide +kernel
theorem dX4_structure_49 : decode cX4_structure 49 = .ok (.aload_n 1, 1) := by decide +kernel
theorem dX4_structure_50 : decode cX4_structure 50 = .ok (.getfield 67, 3) := by decide +kernel
theorem dX4_structure_53 : decode cX4_structure 53 = .ok (.invokevirtual 72, 3) := by decide +kernel
theorem dX4_structure_56 : decode cX4_structure 56 = .ok (.ifCond .ne 6, 3) := by decide +kernel
theorem dX4_structure_59 : decode cX4_structure 59 = .ok (.bipush (-8), 2) := by decide +kernel
theorem dX4_structure_61 : decode cX4_structure 61 = .ok (.ireturn, 1) := by decide +kernel
theorem dX4_structure_62 : decode cX4_structure 62 = .ok (.aload_n 0, 1) := by decide +kernel
theorem dX4_structure_63 : decode cX4_structure 63 = .ok (.aload_n 1, 1) := by decide +kernel
theorem dX4_structure_64 : decode cX4_structure 64 = .ok (.invokevirtual 164, 3) := by decide +kernel
theorem dX4_structure_67 : decode cX4_structure 67 = .ok (.iconst 0, 1) := by decide +kernel
theorem dX4_structure_68 : decode cX4_structure 68 = .ok (.ireturn, 1) := by decide +kernel
theorem dX4_openThingFor_0 : decode cX4_openThingFor 0 = .ok (.getstatic 80, 3) := by decide +kernel
theorem dX4_openThingFor_3 : decode cX4_openThingFor 3 = .ok (.aload_n 1, 1) := by decide +kernel
theorem dX4_openThingFor_4 : decode cX4_openThingFor 4 = .ok (.invokevirtual 85, 3) := by decide +kernel
theorem dX4_openThingFor_7 : decode cX4_openThingFor 7 = .ok (.iaload, 1) := by decide +kernel
theorem dX4_openThingFor_8 : decode cX4_openThingFor 8 = .ok (.tableswitch 52 11 17 #[44, 44, 46, 46, 48, 50, 50], 44) := by decide +kernel
theorem dX4_openThingFor_52 : decode cX4_openThingFor 52 = .ok (.iconst 1, 1) := by decide +kernel
theorem dX4_openThingFor_53 : decode cX4_openThingFor 53 = .ok (.ireturn, 1) := by decide +kernel
theorem dX4_openThingFor_54 : decode cX4_openThingFor 54 = .ok (.iconst 2, 1) := by decide +kernel
theorem dX4_openThingFor_55 : decode cX4_openThingFor 55 = .ok (.ireturn, 1) := by decide +kernel
theorem dX4_openThingFor_56 : decode cX4_openThingFor 56 = .ok (.iconst 3, 1) := by decide +kernel
theorem dX4_openThingFor_57 : decode cX4_openThingFor 57 = .ok (.ireturn, 1) := by decide +kernel
theorem dX4_openThingFor_58 : decode cX4_openThingFor 58 = .ok (.iconst 4, 1) := by decide +kernel
theorem dX4_openThingFor_59 : decode cX4_openThingFor 59 = .ok (.ireturn, 1) := by decide +kernel
theorem dX4_openThingFor_60 : decode cX4_openThingFor 60 = .ok (.iconst 0, 1) := by decide +kernel
theorem dX4_openThingFor_61 : decode cX4_openThingFor 61 = .ok (.ireturn, 1) := by decide +kernel
theorem dX4_opensOneMore_0 : decode cX4_opensOneMore 0 = .ok (.aload_n 1, 1) := by decide +kernel
theorem dX4_opensOneMore_1 : decode cX4_opensOneMore 1 = .ok (.getstatic 167, 3) := by decide +kernel
theorem dX4_opensOneMore_4 : decode cX4_opensOneMore 4 = .ok (.if_acmp .eq 24, 3) := by decide +kernel
theorem dX4_opensOneMore_7 : decode cX4_opensOneMore 7 = .ok (.aload_n 1, 1) := by decide +kernel
theorem dX4_opensOneMore_8 : decode cX4_opensOneMore 8 = .ok (.getstatic 170, 3) := by decide +kernel
theorem dX4_opensOneMore_11 : decode cX4_opensOneMore 11 = .ok (.if_acmp .eq 17, 3) := by decide +kernel
theorem dX4_opensOneMore_14 : decode cX4_opensOneMore 14 = .ok (.aload_n 1, 1) := by decide +kernel
theorem dX4_opensOneMore_15 : decode cX4_opensOneMore 15 = .ok (.getstatic 173, 3) := by decide +kernel
theorem dX4_opensOneMore_18 : decode cX4_opensOneMore 18 = .ok (.if_acmp .eq 10, 3) := by decide +kernel
theorem dX4_opensOneMore_21 : decode cX4_opensOneMore 21 = .ok (.aload_n 1, 1) := by decide +kernel
theorem dX4_opensOneMore_22 : decode cX4_opensOneMore 22 = .ok (.getstatic 176, 3) := by decide +kernel
theorem dX4_opensOneMore_25 : decode cX4_opensOneMore 25 = .ok (.if_acmp .ne 7, 3) := by decide +kernel
theorem dX4_opensOneMore_28 : decode cX4_opensOneMore 28 = .ok (.iconst 1, 1) := by decide +kernel
theorem dX4_opensOneMore_29 : decode cX4_opensOneMore 29 = .ok (.goto 4, 3) := by decide +kernel
theorem dX4_opensOneMore_32 : decode cX4_opensOneMore 32 = .ok (.iconst 0, 1) := by decide +kernel
theorem dX4_opensOneMore_33 : decode cX4_opensOneMore 33 = .ok (.ireturn, 1) := by decide +kernel
theorem dX4_build_0 : decode cX4_build 0 = .ok (.getstatic 80, 3) := by decide +kernel
theorem dX4_build_3 : decode cX4_build 3 = .ok (.aload_n 1, 1) := by decide +kernel
theorem dX4_build_4 : decode cX4_build 4 = .ok (.invokevirtual 85, 3) := by decide +kernel
theorem dX4_build_7 : decode cX4_build 7 = .ok (.iaload, 1) := by decide +kernel
theorem dX4_build_8 : decode cX4_build 8 = .ok (.tableswitch 275 11 20 #[65, 97, 139, 158, 167, 236, 255, 56, 121, 209], 56) := by decide +kernel
theorem dX4_build_64 : decode cX4_build 64 = .ok (.aload_n 0, 1) := by decide +kernel
theorem dX4_build_65 : decode cX4_build 65 = .ok (.iconst 3, 1) := by decide +kernel
theorem dX4_build_66 : decode cX4_build 66 = .ok (.iconst 1, 1) := by decide +kernel
theorem dX4_build_67 : decode cX4_build 67 = .ok (.invokevirtual 179, 3) := by decide +kernel
theorem dX4_build_70 : decode cX4_build 70 = .ok (.goto 213, 3) := by decide +kernel
theorem dX4_build_73 : decode cX4_build 73 = .ok (.aload_n 0, 1) := by decide +kernel
theorem dX4_build_74 : decode cX4_build 74 = .ok (.getfield 12, 3) := by decide +kernel
theorem dX4_build_77 : decode cX4_build 77 = .ok (.invokevirtual 183, 3) := by decide +kernel
theorem dX4_build_80 : decode cX4_build 80 = .ok (.istore_n 2, 1) := by decide +kernel
theorem dX4_build_81 : decode cX4_build 81 = .ok (.aload_n 0, 1) := by decide +kernel
theorem dX4_build_82 : decode cX4_build 82 = .ok (.iconst 2, 1) := by decide +kernel
theorem dX4_build_83 : decode cX4_build 83 = .ok (.iconst 1, 1) := by decide +kernel
theorem dX4_build_84 : decode cX4_build 84 = .ok (.invokevirtual 179, 3) := by decide +kernel
theorem dX4_build_87 : decode cX4_build 87 = .ok (.aload_n 0, 1) := by decide +kernel
theorem dX4_build_88 : decode cX4_build 88 = .ok (.getfield 26, 3) := by decide +kernel
theorem dX4_build_91 : decode cX4_build 91 = .ok (.iload_n 2, 1) := by decide +kernel
theorem dX4_build_92 : decode cX4_build 92 = .ok (.aload_n 0, 1) := by decide +kernel
theorem dX4_build_93 : decode cX4_build 93 = .ok (.getfield 26, 3) := by decide +kernel
theorem dX4_build_96 : decode cX4_build 96 = .ok (.getfield 53, 3) := by decide +kernel
theorem dX4_build_99 : decode cX4_build 99 = .ok (.invokevirtual 186, 3) := by decide +kernel
theorem dX4_build_102 : decode cX4_build 102 = .ok (.goto 181, 3) := by decide +kernel
theorem dX4_build_105 : decode cX4_build 105 = .ok (.aload_n 0, 1) := by decide +kernel
theorem dX4_build_106 : decode cX4_build 106 = .ok (.getfield 26, 3) := by decide +kernel
theorem dX4_build_109 : decode cX4_build 109 = .ok (.aload_n 0, 1) := by decide +kernel
theorem dX4_build_110 : decode cX4_build 110 = .ok (.getfield 12, 3) := by decide +kernel
theorem dX4_build_113 : decode cX4_build 113 = .ok (.invokevirtual 183, 3) := by decide +kernel
theorem dX4_build_116 : decode cX4_build 116 = .ok (.aload_n 0, 1) := by decide +kernel
theorem dX4_build_117 : decode cX4_build 117 = .ok (.getfield 26, 3) := by decide +kernel
theorem dX4_build_120 : decode cX4_build 120 = .ok (.getfield 53, 3) := by decide +kernel
theorem dX4_build_123 : decode cX4_build 123 = .ok (.invokevirtual 186, 3) := by decide +kernel
theorem dX4_build_126 : decode cX4_build 126 = .ok (.goto 157, 3) := by decide +kernel
theorem dX4_build_129 : decode cX4_build 129 = .ok (.aload_n 0, 1) := by decide +kernel
theorem dX4_build_130 : decode cX4_build 130 = .ok (.getfield 12, 3) := by decide +kernel
theorem dX4_build_133 : decode cX4_build 133 = .ok (.iconst 2, 1) := by decide +kernel
theorem dX4_build_134 : decode cX4_build 134 = .ok (.aload_n 0, 1) := by decide +kernel
theorem dX4_build_135 : decode cX4_build 135 = .ok (.getfield 26, 3) := by decide +kernel
theorem dX4_build_138 : decode cX4_build 138 = .ok (.getfield 53, 3) := by decide +kernel
theorem dX4_build_141 : decode cX4_build 141 = .ok (.invokevirtual 189, 3) := by decide +kernel
theorem dX4_build_144 : decode cX4_build 144 = .ok (.goto 139, 3) := by decide +kernel
theorem dX4_build_147 : decode cX4_build 147 = .ok (.aload_n 0, 1) := by decide +kernel
theorem dX4_build_148 : decode cX4_build 148 = .ok (.getfield 26, 3) := by decide +kernel
theorem dX4_build_151 : decode cX4_build 151 = .ok (.iconst 3, 1) := by decide +kernel
theorem dX4_build_152 : decode cX4_build 152 = .ok (.aload_n 0, 1) := by decide +kernel
theorem dX4_build_153 : decode cX4_build 153 = .ok (.getfield 12, 3) := by decide +kernel
theorem dX4_build_156 : decode cX4_build 156 = .ok (.invokevirtual 183, 3) := by decide +kernel
theorem dX4_build_159 : decode cX4_build 159 = .ok (.invokevirtual 133, 3) := by decide +kernel
theorem dX4_build_162 : decode cX4_build 162 = .ok (.pop, 1) := by decide +kernel
theorem dX4_build_163 : decode cX4_build 163 = .ok (.goto 120, 3) := by decide +kernel
theorem dX4_build_166 : decode cX4_build 166 = .ok (.aload_n 0, 1) := by decide +kernel
theorem dX4_build_167 : decode cX4_build 167 = .ok (.iconst 3, 1) := by decide +kernel
theorem dX4_build_168 : decode cX4_build 168 = .ok (.iconst 3, 1) := by decide +kernel
theorem dX4_build_169 : decode cX4_build 169 = .ok (.invokevirtual 179, 3) := by decide +kernel
theorem dX4_build_172 : decode cX4_build 172 = .ok (.goto 111, 3) := by decide +kernel
theorem dX4_build_175 : decode cX4_build 175 = .ok (.aload_n 0, 1) := by decide +kernel
theorem dX4_build_176 : decode cX4_build 176 = .ok (.getfield 12, 3) := by decide +kernel
theorem dX4_build_179 : decode cX4_build 179 = .ok (.invokevirtual 183, 3) := by decide +kernel
theorem dX4_build_182 : decode cX4_build 182 = .ok (.istore_n 3, 1) := by decide +kernel
theorem dX4_build_183 : decode cX4_build 183 = .ok (.aload_n 0, 1) := by decide +kernel
theorem dX4_build_184 : decode cX4_build 184 = .ok (.getfield 26, 3) := by decide +kernel
theorem dX4_build_187 : decode cX4_build 187 = .ok (.iconst 2, 1) := by decide +kernel
theorem dX4_build_188 : decode cX4_build 188 = .ok (.aload_n 0, 1) := by decide +kernel
theorem dX4_build_189 : decode cX4_build 189 = .ok (.getfield 12, 3) := by decide +kernel
theorem dX4_build_192 : decode cX4_build 192 = .ok (.invokevirtual 183, 3) := by decide +kernel
theorem dX4_build_195 : decode cX4_build 195 = .ok (.invokevirtual 133, 3) := by decide +kernel
theorem dX4_build_198 : decode cX4_build 198 = .ok (.pop, 1) := by decide +kernel
theorem dX4_build_199 : decode cX4_build 199 = .ok (.aload_n 0, 1) := by decide +kernel
theorem dX4_build_200 : decode cX4_build 200 = .ok (.getfield 26, 3) := by decide +kernel
theorem dX4_build_203 : decode cX4_build 203 = .ok (.iload_n 3, 1) := by decide +kernel
theorem dX4_build_204 : decode cX4_build 204 = .ok (.aload_n 0, 1) := by decide +kernel
theorem dX4_build_205 : decode cX4_build 205 = .ok (.getfield 26, 3) := by decide +kernel
theorem dX4_build_208 : decode cX4_build 208 = .ok (.getfield 53, 3) := by decide +kernel
theorem dX4_build_211 : decode cX4_build 211 = .ok (.invokevirtual 186, 3) := by decide +kernel
theorem dX4_build_214 : decode cX4_build 214 = .ok (.goto 69, 3) := by decide +kernel
theorem dX4_build_217 : decode cX4_build 217 = .ok (.aload_n 0, 1) := by decide +kernel
theorem dX4_build_218 : decode cX4_build 218 = .ok (.getfield 26, 3) := by decide +kernel
theorem dX4_build_221 : decode cX4_build 221 = .ok (.iconst 4, 1) := by decide +kernel
theorem dX4_build_222 : decode cX4_build 222 = .ok (.invokevirtual 97, 3) := by decide +kernel
theorem dX4_build_225 : decode cX4_build 225 = .ok (.pop, 1) := by decide +kernel
theorem dX4_build_226 : decode cX4_build 226 = .ok (.aload_n 0, 1) := by decide +kernel
theorem dX4_build_227 : decode cX4_build 227 = .ok (.getfield 12, 3) := by decide +kernel
theorem dX4_build_230 : decode cX4_build 230 = .ok (.iconst 4, 1) := by decide +kernel
theorem dX4_build_231 : decode cX4_build 231 = .ok (.aload_n 0, 1) := by decide +kernel
theorem dX4_build_232 : decode cX4_build 232 = .ok (.getfield 26, 3) := by decide +kernel
theorem dX4_build_235 : decode cX4_build 235 = .ok (.getfield 53, 3) := by decide +kernel
theorem dX4_build_238 : decode cX4_build 238 = .ok (.invokevirtual 189, 3) := by decide +kernel
theorem dX4_build_241 : decode cX4_build 241 = .ok (.goto 42, 3) := by decide +kernel
theorem dX4_build_244 : decode cX4_build 244 = .ok (.aload_n 0, 1) := by decide +kernel
theorem dX4_build_245 : decode cX4_build 245 = .ok (.getfield 26, 3) := by decide +kernel
theorem dX4_build_248 : decode cX4_build 248 = .ok (.iconst 5, 1) := by decide +kernel
theorem dX4_build_249 : decode cX4_build 249 = .ok (.aload_n 0, 1) := by decide +kernel
theorem dX4_build_250 : decode cX4_build 250 = .ok (.getfield 12, 3) := by decide +kernel
theorem dX4_build_253 : decode cX4_build 253 = .ok (.invokevirtual 183, 3) := by decide +kernel
theorem dX4_build_256 : decode cX4_build 256 = .ok (.invokevirtual 133, 3) := by decide +kernel
theorem dX4_build_259 : decode cX4_build 259 = .ok (.pop, 1) := by decide +kernel
theorem dX4_build_260 : decode cX4_build 260 = .ok (.goto 23, 3) := by decide +kernel
theorem dX4_build_263 : decode cX4_build 263 = .ok (.aload_n 0, 1) := by decide +kernel
theorem dX4_build_264 : decode cX4_build 264 = .ok (.getfield 26, 3) := by decide +kernel
theorem dX4_build_267 : decode cX4_build 267 = .ok (.bipush 6, 2) := by decide +kernel
theorem dX4_build_269 : decode cX4_build 269 = .ok (.aload_n 0, 1) := by decide +kernel
theorem dX4_build_270 : decode cX4_build 270 = .ok (.getfield 12, 3) := by decide +kernel
theorem dX4_build_273 : decode cX4_build 273 = .ok (.invokevirtual 183, 3) := by decide +kernel
theorem dX4_build_276 : decode cX4_build 276 = .ok (.invokevirtual 133, 3) := by decide +kernel
theorem dX4_build_279 : decode cX4_build 279 = .ok (.pop, 1) := by decide +kernel
theorem dX4_build_280 : decode cX4_build 280 = .ok (.goto 3, 3) := by decide +kernel
theorem dX4_build_283 : decode cX4_build 283 = .ok (.return_, 1) := by decide +kernel
theorem dX4_openJump_0 : decode cX4_openJump 0 = .ok (.aload_n 0, 1) := by decide +kernel
theorem dX4_openJump_1 : decode cX4_openJump 1 = .ok (.getfield 26, 3) := by decide +kernel
theorem dX4_openJump_4 : decode cX4_openJump 4 = .ok (.iload_n 1, 1) := by decide +kernel
theorem dX4_openJump_5 : decode cX4_openJump 5 = .ok (.iconst 0, 1) := by decide +kernel
theorem dX4_openJump_6 : decode cX4_openJump 6 = .ok (.invokevirtual 133, 3) := by decide +kernel
theorem dX4_openJump_9 : decode cX4_openJump 9 = .ok (.pop, 1) := by decide +kernel
theorem dX4_openJump_10 : decode cX4_openJump 10 = .ok (.aload_n 0, 1) := by decide +kernel
theorem dX4_openJump_11 : decode cX4_openJump 11 = .ok (.getfield 12, 3) := by decide +kernel
theorem dX4_openJump_14 : decode cX4_openJump 14 = .ok (.iload_n 2, 1) := by decide +kernel
theorem dX4_openJump_15 : decode cX4_openJump 15 = .ok (.aload_n 0, 1) := by decide +kernel
theorem dX4_openJump_16 : decode cX4_openJump 16 = .ok (.getfield 26, 3) := by decide +kernel
theorem dX4_openJump_19 : decode cX4_openJump 19 = .ok (.getfield 53, 3) := by decide +kernel
theorem dX4_openJump_22 : decode cX4_openJump 22 = .ok (.iconst 1, 1) := by decide +kernel
theorem dX4_openJump_23 : decode cX4_openJump 23 = .ok (.isub, 1) := by decide +kernel
theorem dX4_openJump_24 : decode cX4_openJump 24 = .ok (.invokevirtual 189, 3) := by decide +kernel
theorem dX4_openJump_27 : decode cX4_openJump 27 = .ok (.return_, 1) := by decide +kernel
theorem dX5_init_0 : decode cX5_init 0 = .ok (.aload_n 0, 1) := by decide +kernel
theorem dX5_init_1 : decode cX5_init 1 = .ok (.invokespecial 3, 3) := by decide +kernel
theorem dX5_init_4 : decode cX5_init 4 = .ok (.aload_n 0, 1) := by decide +kernel
theorem dX5_init_5 : decode cX5_init 5 = .ok (.sipush 400, 3) := by decide +kernel
theorem dX5_init_8 : decode cX5_init 8 = .ok (.newarray .int, 2) := by decide +kernel
theorem dX5_init_10 : decode cX5_init 10 = .ok (.putfield 11, 3) := by decide +kernel
theorem dX5_init_13 : decode cX5_init 13 = .ok (.return_, 1) := by decide +kernel
theorem dX5_isCell_0 : decode cX5_isCell 0 = .ok (.iload_n 1, 1) := by decide +kernel
theorem dX5_isCell_1 : decode cX5_isCell 1 = .ok (.ifCond .lt 14, 3) := by decide +kernel
theorem dX5_isCell_4 : decode cX5_isCell 4 = .ok (.iload_n 1, 1) := by decide +kernel
theorem dX5_isCell_5 : decode cX5_isCell 5 = .ok (.sipush 400, 3) := by decide +kernel
theorem dX5_isCell_8 : decode cX5_isCell 8 = .ok (.if_icmp .ge 7, 3) := by decide +kernel
theorem dX5_isCell_11 : decode cX5_isCell 11 = .ok (.iconst 1, 1) := by decide +kernel
theorem dX5_isCell_12 : decode cX5_isCell 12 = .ok (.goto 4, 3) := by decide +kernel
theorem dX5_isCell_15 : decode cX5_isCell 15 = .ok (.iconst 0, 1) := by decide +kernel
theorem dX5_isCell_16 : decode cX5_isCell 16 = .ok (.ireturn, 1) := by decide +kernel
theorem dX5_at_0 : decode cX5_at 0 = .ok (.aload_n 0, 1) := by decide +kernel
theorem dX5_at_1 : decode cX5_at 1 = .ok (.iload_n 1, 1) := by decide +kernel
theorem dX5_at_2 : decode cX5_at 2 = .ok (.invokevirtual 15, 3) := by decide +kernel
theorem dX5_at_5 : decode cX5_at 5 = .ok (.ifCond .eq 12, 3) := by decide +kernel
theorem dX5_at_8 : decode cX5_at 8 = .ok (.aload_n 0, 1) := by decide +kernel
theorem dX5_at_9 : decode cX5_at 9 = .ok (.getfield 11, 3) := by decide +kernel
theorem dX5_at_12 : decode cX5_at 12 = .ok (.iload_n 1, 1) := by decide +kernel
theorem dX5_at_13 : decode cX5_at 13 = .ok (.iaload, 1) := by decide +kernel
theorem dX5_at_14 : decode cX5_at 14 = .ok (.goto 4, 3) := by decide +kernel
theorem dX5_at_17 : decode cX5_at 17 = .ok (.iconst 0, 1) := by decide +kernel
theorem dX5_at_18 : decode cX5_at 18 = .ok (.ireturn, 1) := by decide +kernel
theorem dX5_set_0 : decode cX5_set 0 = .ok (.aload_n 0, 1) := by decide +kernel
theorem dX5_set_1 : decode cX5_set 1 = .ok (.iload_n 1, 1) := by decide +kernel
theorem dX5_set_2 : decode cX5_set 2 = .ok (.invokevirtual 15, 3) := by decide +kernel
theorem dX5_set_5 : decode cX5_set 5 = .ok (.ifCond .eq 10, 3) := by decide +kernel
theorem dX5_set_8 : decode cX5_set 8 = .ok (.aload_n 0, 1) := by decide +kernel
theorem dX5_set_9 : decode cX5_set 9 = .ok (.getfield 11, 3) := by decide +kernel
theorem dX5_set_12 : decode cX5_set 12 = .ok (.iload_n 1, 1) := by decide +kernel
theorem dX5_set_13 : decode cX5_set 13 = .ok (.iload_n 2, 1) := by decide +kernel
theorem dX5_set_14 : decode cX5_set 14 = .ok (.iastore, 1) := by decide +kernel
theorem dX5_set_15 : decode cX5_set 15 = .ok (.return_, 1) := by decide +kernel
theorem dX5_hasRoom_0 : decode cX5_hasRoom 0 = .ok (.aload_n 0, 1) := by decide +kernel
theorem dX5_hasRoom_1 : decode cX5_hasRoom 1 = .ok (.getfield 19, 3) := by decide +kernel
theorem dX5_hasRoom_4 : decode cX5_hasRoom 4 = .ok (.iload_n 1, 1) := by decide +kernel
theorem dX5_hasRoom_5 : decode cX5_hasRoom 5 = .ok (.iadd, 1) := by decide +kernel
theorem dX5_hasRoom_6 : decode cX5_hasRoom 6 = .ok (.sipush 400, 3) := by decide +kernel
theorem dX5_hasRoom_9 : decode cX5_hasRoom 9 = .ok (.if_icmp .gt 7, 3) := by decide +kernel
theorem dX5_hasRoom_12 : decode cX5_hasRoom 12 = .ok (.iconst 1, 1) := by decide +kernel
theorem dX5_hasRoom_13 : decode cX5_hasRoom 13 = .ok (.goto 4, 3) := by decide +kernel
theorem dX5_hasRoom_16 : decode cX5_hasRoom 16 = .ok (.iconst 0, 1) := by decide +kernel
theorem dX5_hasRoom_17 : decode cX5_hasRoom 17 = .ok (.ireturn, 1) := by decide +kernel
theorem dX5_append_0 : decode cX5_append 0 = .ok (.aload_n 0, 1) := by decide +kernel
theorem dX5_append_1 : decode cX5_append 1 = .ok (.iconst 1, 1) := by decide +kernel
theorem dX5_append_2 : decode cX5_append 2 = .ok (.invokevirtual 23, 3) := by decide +kernel
theorem dX5_append_5 : decode cX5_append 5 = .ok (.ifCond .ne 6, 3) := by decide +kernel
theorem dX5_append_8 : decode cX5_append 8 = .ok (.bipush (-8), 2) := by decide +kernel
theorem dX5_append_10 : decode cX5_append 10 = .ok (.ireturn, 1) := by decide +kernel
theorem dX5_append_11 : decode cX5_append 11 = .ok (.aload_n 0, 1) := by decide +kernel
theorem dX5_append_12 : decode cX5_append 12 = .ok (.getfield 11, 3) := by decide +kernel
theorem dX5_append_15 : decode cX5_append 15 = .ok (.aload_n 0, 1) := by decide +kernel
theorem dX5_append_16 : decode cX5_append 16 = .ok (.getfield 19, 3) := by decide +kernel
theorem dX5_append_19 : decode cX5_append 19 = .ok (.iload_n 1, 1) := by decide +kernel
theorem dX5_append_20 : decode cX5_append 20 = .ok (.iastore, 1) := by decide +kernel
theorem dX5_append_21 : decode cX5_append 21 = .ok (.aload_n 0, 1) := by decide +kernel
theorem dX5_append_22 : decode cX5_append 22 = .ok (.dup, 1) := by decide +kernel
theorem dX5_append_23 : decode cX5_append 23 = .ok (.getfield 19, 3) := by decide +kernel
theorem dX5_append_26 : decode cX5_append 26 = .ok (.iconst 1, 1) := by decide +kernel
theorem dX5_append_27 : decode cX5_append 27 = .ok (.iadd, 1) := by decide +kernel
theorem dX5_append_28 : decode cX5_append 28 = .ok (.putfield 19, 3) := by decide +kernel
theorem dX5_append_31 : decode cX5_append 31 = .ok (.iconst 0, 1) := by decide +kernel
theorem dX5_append_32 : decode cX5_append 32 = .ok (.ireturn, 1) := by decide +kernel
theorem dX5_appendBoth_0 : decode cX5_appendBoth 0 = .ok (.aload_n 0, 1) := by decide +kernel
theorem dX5_appendBoth_1 : decode cX5_appendBoth 1 = .ok (.getfield 19, 3) := by decide +kernel
theorem dX5_appendBoth_4 : decode cX5_appendBoth 4 = .ok (.iconst 2, 1) := by decide +kernel
theorem dX5_appendBoth_5 : decode cX5_appendBoth 5 = .ok (.iadd, 1) := by decide +kernel
theorem dX5_appendBoth_6 : decode cX5_appendBoth 6 = .ok (.sipush 400, 3) := by decide +kernel
theorem dX5_appendBoth_9 : decode cX5_appendBoth 9 = .ok (.if_icmp .le 6, 3) := by decide +kernel
theorem dX5_appendBoth_12 : decode cX5_appendBoth 12 = .ok (.bipush (-8), 2) := by decide +kernel
theorem dX5_appendBoth_14 : decode cX5_appendBoth 14 = .ok (.ireturn, 1) := by decide +kernel
theorem dX5_appendBoth_15 : decode cX5_appendBoth 15 = .ok (.aload_n 0, 1) := by decide +kernel
theorem dX5_appendBoth_16 : decode cX5_appendBoth 16 = .ok (.getfield 11, 3) := by decide +kernel
theorem dX5_appendBoth_19 : decode cX5_appendBoth 19 = .ok (.aload_n 0, 1) := by decide +kernel
theorem dX5_appendBoth_20 : decode cX5_appendBoth 20 = .ok (.getfield 19, 3) := by decide +kernel
theorem dX5_appendBoth_23 : decode cX5_appendBoth 23 = .ok (.iload_n 1, 1) := by decide +kernel
theorem dX5_appendBoth_24 : decode cX5_appendBoth 24 = .ok (.iastore, 1) := by decide +kernel
theorem dX5_appendBoth_25 : decode cX5_appendBoth 25 = .ok (.aload_n 0, 1) := by decide +kernel
theorem dX5_appendBoth_26 : decode cX5_appendBoth 26 = .ok (.getfield 11, 3) := by decide +kernel
theorem dX5_appendBoth_29 : decode cX5_appendBoth 29 = .ok (.aload_n 0, 1) := by decide +kernel
theorem dX5_appendBoth_30 : decode cX5_appendBoth 30 = .ok (.getfield 19, 3) := by decide +kernel
theorem dX5_appendBoth_33 : decode cX5_appendBoth 33 = .ok (.iconst 1, 1) := by decide +kernel
theorem dX5_appendBoth_34 : decode cX5_appendBoth 34 = .ok (.iadd, 1) := by decide +kernel
theorem dX5_appendBoth_35 : decode cX5_appendBoth 35 = .ok (.iload_n 2, 1) := by decide +kernel
theorem dX5_appendBoth_36 : decode cX5_appendBoth 36 = .ok (.iastore, 1) := by decide +kernel
theorem dX5_appendBoth_37 : decode cX5_appendBoth 37 = .ok (.aload_n 0, 1) := by decide +kernel
theorem dX5_appendBoth_38 : decode cX5_appendBoth 38 = .ok (.dup, 1) := by decide +kernel
theorem dX5_appendBoth_39 : decode cX5_appendBoth 39 = .ok (.getfield 19, 3) := by decide +kernel
theorem dX5_appendBoth_42 : decode cX5_appendBoth 42 = .ok (.iconst 2, 1) := by decide +kernel
theorem dX5_appendBoth_43 : decode cX5_appendBoth 43 = .ok (.iadd, 1) := by decide +kernel
theorem dX5_appendBoth_44 : decode cX5_appendBoth 44 = .ok (.putfield 19, 3) := by decide +kernel
theorem dX5_appendBoth_47 : decode cX5_appendBoth 47 = .ok (.iconst 0, 1) := by decide +kernel
theorem dX5_appendBoth_48 : decode cX5_appendBoth 48 = .ok (.ireturn, 1) := by decide +kernel
theorem dX5_allot_0 : decode cX5_allot 0 = .ok (.aload_n 0, 1) := by decide +kernel
theorem dX5_allot_1 : decode cX5_allot 1 = .ok (.getfield 19, 3) := by decide +kernel
theorem dX5_allot_4 : decode cX5_allot 4 = .ok (.iload_n 1, 1) := by decide +kernel
theorem dX5_allot_5 : decode cX5_allot 5 = .ok (.iadd, 1) := by decide +kernel
theorem dX5_allot_6 : decode cX5_allot 6 = .ok (.istore_n 2, 1) := by decide +kernel
theorem dX5_allot_7 : decode cX5_allot 7 = .ok (.iload_n 2, 1) := by decide +kernel
theorem dX5_allot_8 : decode cX5_allot 8 = .ok (.ifCond .lt 10, 3) := by decide +kernel
theorem dX5_allot_11 : decode cX5_allot 11 = .ok (.iload_n 2, 1) := by decide +kernel
theorem dX5_allot_12 : decode cX5_allot 12 = .ok (.sipush 400, 3) := by decide +kernel
theorem dX5_allot_15 : decode cX5_allot 15 = .ok (.if_icmp .le 6, 3) := by decide +kernel
theorem dX5_allot_18 : decode cX5_allot 18 = .ok (.bipush (-8), 2) := by decide +kernel
theorem dX5_allot_20 : decode cX5_allot 20 = .ok (.ireturn, 1) := by decide +kernel
theorem dX5_allot_21 : decode cX5_allot 21 = .ok (.aload_n 0, 1) := by decide +kernel
theorem dX5_allot_22 : decode cX5_allot 22 = .ok (.iload_n 2, 1) := by decide +kernel
theorem dX5_allot_23 : decode cX5_allot 23 = .ok (.putfield 19, 3) := by decide +kernel
theorem dX5_allot_26 : decode cX5_allot 26 = .ok (.iconst 0, 1) := by decide +kernel
theorem dX5_allot_27 : decode cX5_allot 27 = .ok (.ireturn, 1) := by decide +kernel
theorem dX6_init_0 : decode cX6_init 0 = .ok (.aload_n 0, 1) := by decide +kernel
theorem dX6_init_1 : decode cX6_init 1 = .ok (.invokespecial 3, 3) := by decide +kernel
theorem dX6_init_4 : decode cX6_init 4 = .ok (.aload_n 0, 1) := by decide +kernel
theorem dX6_init_5 : decode cX6_init 5 = .ok (.bipush 12, 2) := by decide +kernel
theorem dX6_init_7 : decode cX6_init 7 = .ok (.newarray .int, 2) := by decide +kernel
theorem dX6_init_9 : decode cX6_init 9 = .ok (.putfield 11, 3) := by decide +kernel
theorem dX6_init_12 : decode cX6_init 12 = .ok (.aload_n 0, 1) := by decide +kernel
theorem dX6_init_13 : decode cX6_init 13 = .ok (.bipush 12, 2) := by decide +kernel
theorem dX6_init_15 : decode cX6_init 15 = .ok (.newarray .int, 2) := by decide +kernel
theorem dX6_init_17 : decode cX6_init 17 = .ok (.putfield 15, 3) := by decide +kernel
theorem dX6_init_20 : decode cX6_init 20 = .ok (.return_, 1) := by decide +kernel
theorem dX6_isFull_0 : decode cX6_isFull 0 = .ok (.aload_n 0, 1) := by decide +kernel
theorem dX6_isFull_1 : decode cX6_isFull 1 = .ok (.getfield 18, 3) := by decide +kernel
theorem dX6_isFull_4 : decode cX6_isFull 4 = .ok (.bipush 12, 2) := by decide +kernel
theorem dX6_isFull_6 : decode cX6_isFull 6 = .ok (.if_icmp .ne 7, 3) := by decide +kernel
theorem dX6_isFull_9 : decode cX6_isFull 9 = .ok (.iconst 1, 1) := by decide +kernel
theorem dX6_isFull_10 : decode cX6_isFull 10 = .ok (.goto 4, 3) := by decide +kernel
theorem dX6_isFull_13 : decode cX6_isFull 13 = .ok (.iconst 0, 1) := by decide +kernel
theorem dX6_isFull_14 : decode cX6_isFull 14 = .ok (.ireturn, 1) := by decide +kernel
theorem dX6_latestSort_0 : decode cX6_latestSort 0 = .ok (.aload_n 0, 1) := by decide +kernel
theorem dX6_latestSort_1 : decode cX6_latestSort 1 = .ok (.getfield 18, 3) := by decide +kernel
theorem dX6_latestSort_4 : decode cX6_latestSort 4 = .ok (.ifCond .le 17, 3) := by decide +kernel
theorem dX6_latestSort_7 : decode cX6_latestSort 7 = .ok (.aload_n 0, 1) := by decide +kernel
theorem dX6_latestSort_8 : decode cX6_latestSort 8 = .ok (.getfield 11, 3) := by decide +kernel
theorem dX6_latestSort_11 : decode cX6_latestSort 11 = .ok (.aload_n 0, 1) := by decide +kernel
theorem dX6_latestSort_12 : decode cX6_latestSort 12 = .ok (.getfield 18, 3) := by decide +kernel
theorem dX6_latestSort_15 : decode cX6_latestSort 15 = .ok (.iconst 1, 1) := by decide +kernel
theorem dX6_latestSort_16 : decode cX6_latestSort 16 = .ok (.isub, 1) := by decide +kernel
theorem dX6_latestSort_17 : decode cX6_latestSort 17 = .ok (.iaload, 1) := by decide +kernel
theorem dX6_latestSort_18 : decode cX6_latestSort 18 = .ok (.goto 4, 3) := by decide +kernel
theorem dX6_latestSort_21 : decode cX6_latestSort 21 = .ok (.iconst 0, 1) := by decide +kernel
theorem dX6_latestSort_22 : decode cX6_latestSort 22 = .ok (.ireturn, 1) := by decide +kernel
theorem dX6_add_0 : decode cX6_add 0 = .ok (.aload_n 0, 1) := by decide +kernel
theorem dX6_add_1 : decode cX6_add 1 = .ok (.getfield 18, 3) := by decide +kernel
theorem dX6_add_4 : decode cX6_add 4 = .ok (.bipush 12, 2) := by decide +kernel
theorem dX6_add_6 : decode cX6_add 6 = .ok (.if_icmp .ge 33, 3) := by decide +kernel
theorem dX6_add_9 : decode cX6_add 9 = .ok (.aload_n 0, 1) := by decide +kernel
theorem dX6_add_10 : decode cX6_add 10 = .ok (.getfield 11, 3) := by decide +kernel
theorem dX6_add_13 : decode cX6_add 13 = .ok (.aload_n 0, 1) := by decide +kernel
theorem dX6_add_14 : decode cX6_add 14 = .ok (.getfield 18, 3) := by decide +kernel
theorem dX6_add_17 : decode cX6_add 17 = .ok (.iload_n 1, 1) := by decide +kernel
theorem dX6_add_18 : decode cX6_add 18 = .ok (.iastore, 1) := by decide +kernel
theorem dX6_add_19 : decode cX6_add 19 = .ok (.aload_n 0, 1) := by decide +kernel
theorem dX6_add_20 : decode cX6_add 20 = .ok (.getfield 15, 3) := by decide +kernel
theorem dX6_add_23 : decode cX6_add 23 = .ok (.aload_n 0, 1) := by decide +kernel
theorem dX6_add_24 : decode cX6_add 24 = .ok (.getfield 18, 3) := by decide +kernel
theorem dX6_add_27 : decode cX6_add 27 = .ok (.iload_n 2, 1) := by decide +kernel
theorem dX6_add_28 : decode cX6_add 28 = .ok (.iastore, 1) := by decide +kernel
theorem dX6_add_29 : decode cX6_add 29 = .ok (.aload_n 0, 1) := by decide +kernel
theorem dX6_add_30 : decode cX6_add 30 = .ok (.dup, 1) := by decide +kernel
theorem dX6_add_31 : decode cX6_add 31 = .ok (.getfield 18, 3) := by decide +kernel
theorem dX6_add_34 : decode cX6_add 34 = .ok (.iconst 1, 1) := by decide +kernel
theorem dX6_add_35 : decode cX6_add 35 = .ok (.iadd, 1) := by decide +kernel
theorem dX6_add_36 : decode cX6_add 36 = .ok (.putfield 18, 3) := by decide +kernel
theorem dX6_add_39 : decode cX6_add 39 = .ok (.return_, 1) := by decide +kernel
theorem dX6_close_0 : decode cX6_close 0 = .ok (.aload_n 0, 1) := by decide +kernel
theorem dX6_close_1 : decode cX6_close 1 = .ok (.getfield 18, 3) := by decide +kernel
theorem dX6_close_4 : decode cX6_close 4 = .ok (.ifCond .ne 5, 3) := by decide +kernel
theorem dX6_close_7 : decode cX6_close 7 = .ok (.iconst (-1), 1) := by decide +kernel
theorem dX6_close_8 : decode cX6_close 8 = .ok (.ireturn, 1) := by decide +kernel
theorem dX6_close_9 : decode cX6_close 9 = .ok (.aload_n 0, 1) := by decide +kernel
theorem dX6_close_10 : decode cX6_close 10 = .ok (.dup, 1) := by decide +kernel
theorem dX6_close_11 : decode cX6_close 11 = .ok (.getfield 18, 3) := by decide +kernel
theorem dX6_close_14 : decode cX6_close 14 = .ok (.iconst 1, 1) := by decide +kernel
theorem dX6_close_15 : decode cX6_close 15 = .ok (.isub, 1) := by decide +kernel
theorem dX6_close_16 : decode cX6_close 16 = .ok (.putfield 18, 3) := by decide +kernel
theorem dX6_close_19 : decode cX6_close 19 = .ok (.aload_n 0, 1) := by decide +kernel
theorem dX6_close_20 : decode cX6_close 20 = .ok (.getfield 15, 3) := by decide +kernel
theorem dX6_close_23 : decode cX6_close 23 = .ok (.aload_n 0, 1) := by decide +kernel
theorem dX6_close_24 : decode cX6_close 24 = .ok (.getfield 18, 3) := by decide +kernel
theorem dX6_close_27 : decode cX6_close 27 = .ok (.iaload, 1) := by decide +kernel
theorem dX6_close_28 : decode cX6_close 28 = .ok (.ireturn, 1) := by decide +kernel
theorem dX7_init_0 : decode cX7_init 0 = .ok (.aload_n 0, 1) := by decide +kernel
theorem dX7_init_1 : decode cX7_init 1 = .ok (.invokespecial 1, 3) := by decide +kernel
theorem dX7_init_4 : decode cX7_init 4 = .ok (.aload_n 0, 1) := by decide +kernel
theorem dX7_init_5 : decode cX7_init 5 = .ok (.sipush 300, 3) := by decide +kernel
theorem dX7_init_8 : decode cX7_init 8 = .ok (.newarray .char, 2) := by decide +kernel
theorem dX7_init_10 : decode cX7_init 10 = .ok (.putfield 9, 3) := by decide +kernel
theorem dX7_init_13 : decode cX7_init 13 = .ok (.return_, 1) := by decide +kernel
theorem dX7_write_0 : decode cX7_write 0 = .ok (.aload_n 0, 1) := by decide +kernel
theorem dX7_write_1 : decode cX7_write 1 = .ok (.getfield 13, 3) := by decide +kernel
theorem dX7_write_4 : decode cX7_write 4 = .ok (.sipush 300, 3) := by decide +kernel
theorem dX7_write_7 : decode cX7_write 7 = .ok (.if_icmp .ge 23, 3) := by decide +kernel
theorem dX7_write_10 : decode cX7_write 10 = .ok (.aload_n 0, 1) := by decide +kernel
theorem dX7_write_11 : decode cX7_write 11 = .ok (.getfield 9, 3) := by decide +kernel
theorem dX7_write_14 : decode cX7_write 14 = .ok (.aload_n 0, 1) := by decide +kernel
theorem dX7_write_15 : decode cX7_write 15 = .ok (.getfield 13, 3) := by decide +kernel
theorem dX7_write_18 : decode cX7_write 18 = .ok (.iload_n 1, 1) := by decide +kernel
theorem dX7_write_19 : decode cX7_write 19 = .ok (.castore, 1) := by decide +kernel
theorem dX7_write_20 : decode cX7_write 20 = .ok (.aload_n 0, 1) := by decide +kernel
theorem dX7_write_21 : decode cX7_write 21 = .ok (.dup, 1) := by decide +kernel
theorem dX7_write_22 : decode cX7_write 22 = .ok (.getfield 13, 3) := by decide +kernel
theorem dX7_write_25 : decode cX7_write 25 = .ok (.iconst 1, 1) := by decide +kernel
theorem dX7_write_26 : decode cX7_write 26 = .ok (.iadd, 1) := by decide +kernel
theorem dX7_write_27 : decode cX7_write 27 = .ok (.putfield 13, 3) := by decide +kernel
theorem dX7_write_30 : decode cX7_write 30 = .ok (.return_, 1) := by decide +kernel
theorem dX7_writeNumber_0 : decode cX7_writeNumber 0 = .ok (.iload_n 1, 1) := by decide +kernel
theorem dX7_writeNumber_1 : decode cX7_writeNumber 1 = .ok (.i2l, 1) := by decide +kernel
theorem dX7_writeNumber_2 : decode cX7_writeNumber 2 = .ok (.lstore_n 2, 1) := by decide +kernel
theorem dX7_writeNumber_3 : decode cX7_writeNumber 3 = .ok (.iload_n 1, 1) := by decide +kernel
theorem dX7_writeNumber_4 : decode cX7_writeNumber 4 = .ok (.ifCond .ge 12, 3) := by decide +kernel
theorem dX7_writeNumber_7 : decode cX7_writeNumber 7 = .ok (.aload_n 0, 1) := by decide +kernel
theorem dX7_writeNumber_8 : decode cX7_writeNumber 8 = .ok (.bipush 45, 2) := by decide +kernel
theorem dX7_writeNumber_10 : decode cX7_writeNumber 10 = .ok (.invokevirtual 17, 3) := by decide +kernel
theorem dX7_writeNumber_13 : decode cX7_writeNumber 13 = .ok (.lload_n 2, 1) := by decide +kernel
theorem dX7_writeNumber_14 : decode cX7_writeNumber 14 = .ok (.lneg, 1) := by decide +kernel
theorem dX7_writeNumber_15 : decode cX7_writeNumber 15 = .ok (.lstore_n 2, 1) := by decide +kernel
theorem dX7_writeNumber_16 : decode cX7_writeNumber 16 = .ok (.lconst 1, 1) := by decide +kernel
theorem dX7_writeNumber_17 : decode cX7_writeNumber 17 = .ok (.lstore 4, 2) := by decide +kernel
theorem dX7_writeNumber_19 : decode cX7_writeNumber 19 = .ok (.iconst 1, 1) := by decide +kernel
theorem dX7_writeNumber_20 : decode cX7_writeNumber 20 = .ok (.istore 6, 2) := by decide +kernel
theorem dX7_writeNumber_22 : decode cX7_writeNumber 22 = .ok (.iload 6, 2) := by decide +kernel
theorem dX7_writeNumber_24 : decode cX7_writeNumber 24 = .ok (.bipush 10, 2) := by decide +kernel
theorem dX7_writeNumber_26 : decode cX7_writeNumber 26 = .ok (.if_icmp .ge 28, 3) := by decide +kernel
theorem dX7_writeNumber_29 : decode cX7_writeNumber 29 = .ok (.lload 4, 2) := by decide +kernel
theorem dX7_writeNumber_31 : decode cX7_writeNumber 31 = .ok (.ldc2_w 21, 3) := by decide +kernel
theorem dX7_writeNumber_34 : decode cX7_writeNumber 34 = .ok (.lmul, 1) := by decide +kernel
theorem dX7_writeNumber_35 : decode cX7_writeNumber 35 = .ok (.lload_n 2, 1) := by decide +kernel
theorem dX7_writeNumber_36 : decode cX7_writeNumber 36 = .ok (.lcmp, 1) := by decide +kernel
theorem dX7_writeNumber_37 : decode cX7_writeNumber 37 = .ok (.ifCond .gt 17, 3) := by decide +kernel
theorem dX7_writeNumber_40 : decode cX7_writeNumber 40 = .ok (.lload 4, 2) := by decide +kernel
theorem dX7_writeNumber_42 : decode cX7_writeNumber 42 = .ok (.ldc2_w 21, 3) := by decide +kernel
theorem dX7_writeNumber_45 : decode cX7_writeNumber 45 = .ok (.lmul, 1) := by decide +kernel
theorem dX7_writeNumber_46 : decode cX7_writeNumber 46 = .ok (.lstore 4, 2) := by decide +kernel
theorem dX7_writeNumber_48 : decode cX7_writeNumber 48 = .ok (.iinc 6 1, 3) := by decide +kernel
theorem dX7_writeNumber_51 : decode cX7_writeNumber 51 = .ok (.goto (-29), 3) := by decide +kernel
theorem dX7_writeNumber_54 : decode cX7_writeNumber 54 = .ok (.lload 4, 2) := by decide +kernel
theorem dX7_writeNumber_56 : decode cX7_writeNumber 56 = .ok (.lstore 6, 2) := by decide +kernel
theorem dX7_writeNumber_58 : decode cX7_writeNumber 58 = .ok (.lload 6, 2) := by decide +kernel
theorem dX7_writeNumber_60 : decode cX7_writeNumber 60 = .ok (.lconst 0, 1) := by decide +kernel
theorem dX7_writeNumber_61 : decode cX7_writeNumber 61 = .ok (.lcmp, 1) := by decide +kernel
theorem dX7_writeNumber_62 : decode cX7_writeNumber 62 = .ok (.ifCond .le 32, 3) := by decide +kernel
theorem dX7_writeNumber_65 : decode cX7_writeNumber 65 = .ok (.aload_n 0, 1) := by decide +kernel
theorem dX7_writeNumber_66 : decode cX7_writeNumber 66 = .ok (.ldc2_w 23, 3) := by decide +kernel
theorem dX7_writeNumber_69 : decode cX7_writeNumber 69 = .ok (.lload_n 2, 1) := by decide +kernel
theorem dX7_writeNumber_70 : decode cX7_writeNumber 70 = .ok (.lload 6, 2) := by decide +kernel
theorem dX7_writeNumber_72 : decode cX7_writeNumber 72 = .ok (.ldiv, 1) := by decide +kernel
theorem dX7_writeNumber_73 : decode cX7_writeNumber 73 = .ok (.ldc2_w 21, 3) := by decide +kernel
theorem dX7_writeNumber_76 : decode cX7_writeNumber 76 = .ok (.lrem, 1) := by decide +kernel
theorem dX7_writeNumber_77 : decode cX7_writeNumber 77 = .ok (.ladd, 1) := by decide +kernel
theorem dX7_writeNumber_78 : decode cX7_writeNumber 78 = .ok (.l2i, 1) := by decide +kernel
theorem dX7_writeNumber_79 : decode cX7_writeNumber 79 = .ok (.i2c, 1) := by decide +kernel
theorem dX7_writeNumber_80 : decode cX7_writeNumber 80 = .ok (.invokevirtual 17, 3) := by decide +kernel
theorem dX7_writeNumber_83 : decode cX7_writeNumber 83 = .ok (.lload 6, 2) := by decide +kernel
theorem dX7_writeNumber_85 : decode cX7_writeNumber 85 = .ok (.ldc2_w 21, 3) := by decide +kernel
theorem dX7_writeNumber_88 : decode cX7_writeNumber 88 = .ok (.ldiv, 1) := by decide +kernel
theorem dX7_writeNumber_89 : decode cX7_writeNumber 89 = .ok (.lstore 6, 2) := by decide +kernel
theorem dX7_writeNumber_91 : decode cX7_writeNumber 91 = .ok (.goto (-33), 3) := by decide +kernel
theorem dX7_writeNumber_94 : decode cX7_writeNumber 94 = .ok (.return_, 1) := by decide +kernel
theorem dX8_init_0 : decode cX8_init 0 = .ok (.aload_n 0, 1) := by decide +kernel
theorem dX8_init_1 : decode cX8_init 1 = .ok (.invokespecial 1, 3) := by decide +kernel
theorem dX8_init_4 : decode cX8_init 4 = .ok (.aload_n 0, 1) := by decide +kernel
theorem dX8_init_5 : decode cX8_init 5 = .ok (.bipush 30, 2) := by decide +kernel
theorem dX8_init_7 : decode cX8_init 7 = .ok (.newarray .int, 2) := by decide +kernel
theorem dX8_init_9 : decode cX8_init 9 = .ok (.putfield 9, 3) := by decide +kernel
theorem dX8_init_12 : decode cX8_init 12 = .ok (.aload_n 0, 1) := by decide +kernel
theorem dX8_init_13 : decode cX8_init 13 = .ok (.iload_n 1, 1) := by decide +kernel
theorem dX8_init_14 : decode cX8_init 14 = .ok (.putfield 13, 3) := by decide +kernel
theorem dX8_init_17 : decode cX8_init 17 = .ok (.return_, 1) := by decide +kernel
theorem dX8_hasRoom_0 : decode cX8_hasRoom 0 = .ok (.aload_n 0, 1) := by decide +kernel
theorem dX8_hasRoom_1 : decode cX8_hasRoom 1 = .ok (.getfield 17, 3) := by decide +kernel
theorem dX8_hasRoom_4 : decode cX8_hasRoom 4 = .ok (.iload_n 1, 1) := by decide +kernel
theorem dX8_hasRoom_5 : decode cX8_hasRoom 5 = .ok (.iadd, 1) := by decide +kernel
theorem dX8_hasRoom_6 : decode cX8_hasRoom 6 = .ok (.bipush 30, 2) := by decide +kernel
theorem dX8_hasRoom_8 : decode cX8_hasRoom 8 = .ok (.if_icmp .gt 7, 3) := by decide +kernel
theorem dX8_hasRoom_11 : decode cX8_hasRoom 11 = .ok (.iconst 1, 1) := by decide +kernel
theorem dX8_hasRoom_12 : decode cX8_hasRoom 12 = .ok (.goto 4, 3) := by decide +kernel
theorem dX8_hasRoom_15 : decode cX8_hasRoom 15 = .ok (.iconst 0, 1) := by decide +kernel
theorem dX8_hasRoom_16 : decode cX8_hasRoom 16 = .ok (.ireturn, 1) := by decide +kernel
theorem dX8_put_0 : decode cX8_put 0 = .ok (.aload_n 0, 1) := by decide +kernel
theorem dX8_put_1 : decode cX8_put 1 = .ok (.getfield 17, 3) := by decide +kernel
theorem dX8_put_4 : decode cX8_put 4 = .ok (.bipush 30, 2) := by decide +kernel
theorem dX8_put_6 : decode cX8_put 6 = .ok (.if_icmp .ne 8, 3) := by decide +kernel
theorem dX8_put_9 : decode cX8_put 9 = .ok (.aload_n 0, 1) := by decide +kernel
theorem dX8_put_10 : decode cX8_put 10 = .ok (.getfield 13, 3) := by decide +kernel
theorem dX8_put_13 : decode cX8_put 13 = .ok (.ireturn, 1) := by decide +kernel
theorem dX8_put_14 : decode cX8_put 14 = .ok (.aload_n 0, 1) := by decide +kernel
theorem dX8_put_15 : decode cX8_put 15 = .ok (.getfield 9, 3) := by decide +kernel
theorem dX8_put_18 : decode cX8_put 18 = .ok (.aload_n 0, 1) := by decide +kernel
theorem dX8_put_19 : decode cX8_put 19 = .ok (.getfield 17, 3) := by decide +kernel
theorem dX8_put_22 : decode cX8_put 22 = .ok (.iload_n 1, 1) := by decide +kernel
theorem dX8_put_23 : decode cX8_put 23 = .ok (.iastore, 1) := by decide +kernel
theorem dX8_put_24 : decode cX8_put 24 = .ok (.aload_n 0, 1) := by decide +kernel
theorem dX8_put_25 : decode cX8_put 25 = .ok (.dup, 1) := by decide +kernel
theorem dX8_put_26 : decode cX8_put 26 = .ok (.getfield 17, 3) := by decide +kernel
theorem dX8_put_29 : decode cX8_put 29 = .ok (.iconst 1, 1) := by decide +kernel
theorem dX8_put_30 : decode cX8_put 30 = .ok (.iadd, 1) := by decide +kernel
theorem dX8_put_31 : decode cX8_put 31 = .ok (.putfield 17, 3) := by decide +kernel
theorem dX8_put_34 : decode cX8_put 34 = .ok (.iconst 0, 1) := by decide +kernel
theorem dX8_put_35 : decode cX8_put 35 = .ok (.ireturn, 1) := by decide +kernel
theorem dX8_take_0 : decode cX8_take 0 = .ok (.aload_n 0, 1) := by decide +kernel
theorem dX8_take_1 : decode cX8_take 1 = .ok (.iconst 0, 1) := by decide +kernel
theorem dX8_take_2 : decode cX8_take 2 = .ok (.invokevirtual 20, 3) := by decide +kernel
theorem dX8_take_5 : decode cX8_take 5 = .ok (.istore_n 1, 1) := by decide +kernel
theorem dX8_take_6 : decode cX8_take 6 = .ok (.aload_n 0, 1) := by decide +kernel
theorem dX8_take_7 : decode cX8_take 7 = .ok (.iconst 1, 1) := by decide +kernel
theorem dX8_take_8 : decode cX8_take 8 = .ok (.invokevirtual 24, 3) := by decide +kernel
theorem dX8_take_11 : decode cX8_take 11 = .ok (.iload_n 1, 1) := by decide +kernel
theorem dX8_take_12 : decode cX8_take 12 = .ok (.ireturn, 1) := by decide +kernel
theorem dX8_fromTop_0 : decode cX8_fromTop 0 = .ok (.iload_n 1, 1) := by decide +kernel
theorem dX8_fromTop_1 : decode cX8_fromTop 1 = .ok (.ifCond .lt 27, 3) := by decide +kernel
theorem dX8_fromTop_4 : decode cX8_fromTop 4 = .ok (.iload_n 1, 1) := by decide +kernel
theorem dX8_fromTop_5 : decode cX8_fromTop 5 = .ok (.aload_n 0, 1) := by decide +kernel
theorem dX8_fromTop_6 : decode cX8_fromTop 6 = .ok (.getfield 17, 3) := by decide +kernel
theorem dX8_fromTop_9 : decode cX8_fromTop 9 = .ok (.if_icmp .ge 19, 3) := by decide +kernel
theorem dX8_fromTop_12 : decode cX8_fromTop 12 = .ok (.aload_n 0, 1) := by decide +kernel
theorem dX8_fromTop_13 : decode cX8_fromTop 13 = .ok (.getfield 9, 3) := by decide +kernel
theorem dX8_fromTop_16 : decode cX8_fromTop 16 = .ok (.aload_n 0, 1) := by decide +kernel
theorem dX8_fromTop_17 : decode cX8_fromTop 17 = .ok (.getfield 17, 3) := by decide +kernel
theorem dX8_fromTop_20 : decode cX8_fromTop 20 = .ok (.iconst 1, 1) := by decide +kernel
theorem dX8_fromTop_21 : decode cX8_fromTop 21 = .ok (.isub, 1) := by decide +kernel
theorem dX8_fromTop_22 : decode cX8_fromTop 22 = .ok (.iload_n 1, 1) := by decide +kernel
theorem dX8_fromTop_23 : decode cX8_fromTop 23 = .ok (.isub, 1) := by decide +kernel
theorem dX8_fromTop_24 : decode cX8_fromTop 24 = .ok (.iaload, 1) := by decide +kernel
theorem dX8_fromTop_25 : decode cX8_fromTop 25 = .ok (.goto 4, 3) := by decide +kernel
theorem dX8_fromTop_28 : decode cX8_fromTop 28 = .ok (.iconst 0, 1) := by decide +kernel
theorem dX8_fromTop_29 : decode cX8_fromTop 29 = .ok (.ireturn, 1) := by decide +kernel
theorem dX8_drop_0 : decode cX8_drop 0 = .ok (.aload_n 0, 1) := by decide +kernel
theorem dX8_drop_1 : decode cX8_drop 1 = .ok (.iload_n 1, 1) := by decide +kernel
theorem dX8_drop_2 : decode cX8_drop 2 = .ok (.aload_n 0, 1) := by decide +kernel
theorem dX8_drop_3 : decode cX8_drop 3 = .ok (.getfield 17, 3) := by decide +kernel
theorem dX8_drop_6 : decode cX8_drop 6 = .ok (.if_icmp .ge 12, 3) := by decide +kernel
theorem dX8_drop_9 : decode cX8_drop 9 = .ok (.aload_n 0, 1) := by decide +kernel
theorem dX8_drop_10 : decode cX8_drop 10 = .ok (.getfield 17, 3) := by decide +kernel
theorem dX8_drop_13 : decode cX8_drop 13 = .ok (.iload_n 1, 1) := by decide +kernel
theorem dX8_drop_14 : decode cX8_drop 14 = .ok (.isub, 1) := by decide +kernel
theorem dX8_drop_15 : decode cX8_drop 15 = .ok (.goto 4, 3) := by decide +kernel
theorem dX8_drop_18 : decode cX8_drop 18 = .ok (.iconst 0, 1) := by decide +kernel
theorem dX8_drop_19 : decode cX8_drop 19 = .ok (.putfield 17, 3) := by decide +kernel
theorem dX8_drop_22 : decode cX8_drop 22 = .ok (.return_, 1) := by decide +kernel
theorem dX8_dropOneUnless_0 : decode cX8_dropOneUnless 0 = .ok (.iload_n 1, 1) := by decide +kernel
theorem dX8_dropOneUnless_1 : decode cX8_dropOneUnless 1 = .ok (.ifCond .ne 8, 3) := by decide +kernel
theorem dX8_dropOneUnless_4 : decode cX8_dropOneUnless 4 = .ok (.aload_n 0, 1) := by decide +kernel
theorem dX8_dropOneUnless_5 : decode cX8_dropOneUnless 5 = .ok (.iconst 1, 1) := by decide +kernel
theorem dX8_dropOneUnless_6 : decode cX8_dropOneUnless 6 = .ok (.invokevirtual 24, 3) := by decide +kernel
theorem dX8_dropOneUnless_9 : decode cX8_dropOneUnless 9 = .ok (.iload_n 1, 1) := by decide +kernel
theorem dX8_dropOneUnless_10 : decode cX8_dropOneUnless 10 = .ok (.ireturn, 1) := by decide +kernel
theorem dX8_replaceTop_0 : decode cX8_replaceTop 0 = .ok (.aload_n 0, 1) := by decide +kernel
theorem dX8_replaceTop_1 : decode cX8_replaceTop 1 = .ok (.getfield 17, 3) := by decide +kernel
theorem dX8_replaceTop_4 : decode cX8_replaceTop 4 = .ok (.ifCond .le 15, 3) := by decide +kernel
theorem dX8_replaceTop_7 : decode cX8_replaceTop 7 = .ok (.aload_n 0, 1) := by decide +kernel
theorem dX8_replaceTop_8 : decode cX8_replaceTop 8 = .ok (.getfield 9, 3) := by decide +kernel
theorem dX8_replaceTop_11 : decode cX8_replaceTop 11 = .ok (.aload_n 0, 1) := by decide +kernel
theorem dX8_replaceTop_12 : decode cX8_replaceTop 12 = .ok (.getfield 17, 3) := by decide +kernel
theorem dX8_replaceTop_15 : decode cX8_replaceTop 15 = .ok (.iconst 1, 1) := by decide +kernel
theorem dX8_replaceTop_16 : decode cX8_replaceTop 16 = .ok (.isub, 1) := by decide +kernel
theorem dX8_replaceTop_17 : decode cX8_replaceTop 17 = .ok (.iload_n 1, 1) := by decide +kernel
theorem dX8_replaceTop_18 : decode cX8_replaceTop 18 = .ok (.iastore, 1) := by decide +kernel
theorem dX8_replaceTop_19 : decode cX8_replaceTop 19 = .ok (.return_, 1) := by decide +kernel
theorem dX8_raise_0 : decode cX8_raise 0 = .ok (.aload_n 0, 1) := by decide +kernel
theorem dX8_raise_1 : decode cX8_raise 1 = .ok (.iload_n 1, 1) := by decide +kernel
theorem dX8_raise_2 : decode cX8_raise 2 = .ok (.invokevirtual 20, 3) := by decide +kernel
theorem dX8_raise_5 : decode cX8_raise 5 = .ok (.istore_n 2, 1) := by decide +kernel
theorem dX8_raise_6 : decode cX8_raise 6 = .ok (.iload_n 1, 1) := by decide +kernel
theorem dX8_raise_7 : decode cX8_raise 7 = .ok (.istore_n 3, 1) := by decide +kernel
theorem dX8_raise_8 : decode cX8_raise 8 = .ok (.iload_n 3, 1) := by decide +kernel
theorem dX8_raise_9 : decode cX8_raise 9 = .ok (.ifCond .le 41, 3) := by decide +kernel
theorem dX8_raise_12 : decode cX8_raise 12 = .ok (.iload_n 3, 1) := by decide +kernel
theorem dX8_raise_13 : decode cX8_raise 13 = .ok (.aload_n 0, 1) := by decide +kernel
theorem dX8_raise_14 : decode cX8_raise 14 = .ok (.getfield 17, 3) := by decide +kernel
theorem dX8_raise_17 : decode cX8_raise 17 = .ok (.if_icmp .ge 33, 3) := by decide +kernel
theorem dX8_raise_20 : decode cX8_raise 20 = .ok (.aload_n 0, 1) := by decide +kernel
theorem dX8_raise_21 : decode cX8_raise 21 = .ok (.getfield 9, 3) := by decide +kernel
theorem dX8_raise_24 : decode cX8_raise 24 = .ok (.aload_n 0, 1) := by decide +kernel
theorem dX8_raise_25 : decode cX8_raise 25 = .ok (.getfield 17, 3) := by decide +kernel
theorem dX8_raise_28 : decode cX8_raise 28 = .ok (.iconst 1, 1) := by decide +kernel
theorem dX8_raise_29 : decode cX8_raise 29 = .ok (.isub, 1) := by decide +kernel
theorem dX8_raise_30 : decode cX8_raise 30 = .ok (.iload_n 3, 1) := by decide +kernel
theorem dX8_raise_31 : decode cX8_raise 31 = .ok (.isub, 1) := by decide +kernel
theorem dX8_raise_32 : decode cX8_raise 32 = .ok (.aload_n 0, 1) := by decide +kernel
theorem dX8_raise_33 : decode cX8_raise 33 = .ok (.getfield 9, 3) := by decide +kernel
theorem dX8_raise_36 : decode cX8_raise 36 = .ok (.aload_n 0, 1) := by decide +kernel
theorem dX8_raise_37 : decode cX8_raise 37 = .ok (.getfield 17, 3) := by decide +kernel
theorem dX8_raise_40 : decode cX8_raise 40 = .ok (.iload_n 3, 1) := by decide +kernel
theorem dX8_raise_41 : decode cX8_raise 41 = .ok (.isub, 1) := by decide +kernel
theorem dX8_raise_42 : decode cX8_raise 42 = .ok (.iaload, 1) := by decide +kernel
theorem dX8_raise_43 : decode cX8_raise 43 = .ok (.iastore, 1) := by decide +kernel
theorem dX8_raise_44 : decode cX8_raise 44 = .ok (.iinc 3 (-1), 3) := by decide +kernel
theorem dX8_raise_47 : decode cX8_raise 47 = .ok (.goto (-39), 3) := by decide +kernel
theorem dX8_raise_50 : decode cX8_raise 50 = .ok (.aload_n 0, 1) := by decide +kernel
theorem dX8_raise_51 : decode cX8_raise 51 = .ok (.iload_n 2, 1) := by decide +kernel
theorem dX8_raise_52 : decode cX8_raise 52 = .ok (.invokevirtual 28, 3) := by decide +kernel
theorem dX8_raise_55 : decode cX8_raise 55 = .ok (.return_, 1) := by decide +kernel
theorem dX8_resize_0 : decode cX8_resize 0 = .ok (.aload_n 0, 1) := by decide +kernel
theorem dX8_resize_1 : decode cX8_resize 1 = .ok (.getfield 17, 3) := by decide +kernel
theorem dX8_resize_4 : decode cX8_resize 4 = .ok (.istore_n 2, 1) := by decide +kernel
theorem dX8_resize_5 : decode cX8_resize 5 = .ok (.iload_n 2, 1) := by decide +kernel
theorem dX8_resize_6 : decode cX8_resize 6 = .ok (.iload_n 1, 1) := by decide +kernel
theorem dX8_resize_7 : decode cX8_resize 7 = .ok (.if_icmp .ge 22, 3) := by decide +kernel
theorem dX8_resize_10 : decode cX8_resize 10 = .ok (.iload_n 2, 1) := by decide +kernel
theorem dX8_resize_11 : decode cX8_resize 11 = .ok (.bipush 30, 2) := by decide +kernel
theorem dX8_resize_13 : decode cX8_resize 13 = .ok (.if_icmp .ge 16, 3) := by decide +kernel
theorem dX8_resize_16 : decode cX8_resize 16 = .ok (.aload_n 0, 1) := by decide +kernel
theorem dX8_resize_17 : decode cX8_resize 17 = .ok (.getfield 9, 3) := by decide +kernel
theorem dX8_resize_20 : decode cX8_resize 20 = .ok (.iload_n 2, 1) := by decide +kernel
theorem dX8_resize_21 : decode cX8_resize 21 = .ok (.iconst 0, 1) := by decide +kernel
theorem dX8_resize_22 : decode cX8_resize 22 = .ok (.iastore, 1) := by decide +kernel
theorem dX8_resize_23 : decode cX8_resize 23 = .ok (.iinc 2 1, 3) := by decide +kernel
theorem dX8_resize_26 : decode cX8_resize 26 = .ok (.goto (-21), 3) := by decide +kernel
theorem dX8_resize_29 : decode cX8_resize 29 = .ok (.aload_n 0, 1) := by decide +kernel
theorem dX8_resize_30 : decode cX8_resize 30 = .ok (.iload_n 1, 1) := by decide +kernel
theorem dX8_resize_31 : decode cX8_resize 31 = .ok (.putfield 17, 3) := by decide +kernel
theorem dX8_resize_34 : decode cX8_resize 34 = .ok (.return_, 1) := by decide +kernel
theorem dX9_init_0 : decode cX9_init 0 = .ok (.aload_n 0, 1) := by decide +kernel
theorem dX9_init_1 : decode cX9_init 1 = .ok (.invokespecial 3, 3) := by decide +kernel
theorem dX9_init_4 : decode cX9_init 4 = .ok (.aload_n 0, 1) := by decide +kernel
theorem dX9_init_5 : decode cX9_init 5 = .ok (.sipush 200, 3) := by decide +kernel
theorem dX9_init_8 : decode cX9_init 8 = .ok (.newarray .char, 2) := by decide +kernel
theorem dX9_init_10 : decode cX9_init 10 = .ok (.putfield 11, 3) := by decide +kernel
theorem dX9_init_13 : decode cX9_init 13 = .ok (.return_, 1) := by decide +kernel
theorem dX9_add_0 : decode cX9_add 0 = .ok (.aload_n 0, 1) := by decide +kernel
theorem dX9_add_1 : decode cX9_add 1 = .ok (.getfield 15, 3) := by decide +kernel
theorem dX9_add_4 : decode cX9_add 4 = .ok (.sipush 200, 3) := by decide +kernel
theorem dX9_add_7 : decode cX9_add 7 = .ok (.if_icmp .ne 5, 3) := by decide +kernel
theorem dX9_add_10 : decode cX9_add 10 = .ok (.iconst 0, 1) := by decide +kernel
theorem dX9_add_11 : decode cX9_add 11 = .ok (.ireturn, 1) := by decide +kernel
theorem dX9_add_12 : decode cX9_add 12 = .ok (.aload_n 0, 1) := by decide +kernel
theorem dX9_add_13 : decode cX9_add 13 = .ok (.getfield 11, 3) := by decide +kernel
theorem dX9_add_16 : decode cX9_add 16 = .ok (.aload_n 0, 1) := by decide +kernel
theorem dX9_add_17 : decode cX9_add 17 = .ok (.getfield 15, 3) := by decide +kernel
theorem dX9_add_20 : decode cX9_add 20 = .ok (.iload_n 1, 1) := by decide +kernel
theorem dX9_add_21 : decode cX9_add 21 = .ok (.castore, 1) := by decide +kernel
theorem dX9_add_22 : decode cX9_add 22 = .ok (.aload_n 0, 1) := by decide +kernel
theorem dX9_add_23 : decode cX9_add 23 = .ok (.dup, 1) := by decide +kernel
theorem dX9_add_24 : decode cX9_add 24 = .ok (.getfield 15, 3) := by decide +kernel
theorem dX9_add_27 : decode cX9_add 27 = .ok (.iconst 1, 1) := by decide +kernel
theorem dX9_add_28 : decode cX9_add 28 = .ok (.iadd, 1) := by decide +kernel
theorem dX9_add_29 : decode cX9_add 29 = .ok (.putfield 15, 3) := by decide +kernel
theorem dX9_add_32 : decode cX9_add 32 = .ok (.iconst 1, 1) := by decide +kernel
theorem dX9_add_33 : decode cX9_add 33 = .ok (.ireturn, 1) := by decide +kernel
theorem dX9_clear_0 : decode cX9_clear 0 = .ok (.aload_n 0, 1) := by decide +kernel
theorem dX9_clear_1 : decode cX9_clear 1 = .ok (.iconst 0, 1) := by decide +kernel
theorem dX9_clear_2 : decode cX9_clear 2 = .ok (.putfield 15, 3) := by decide +kernel
theorem dX9_clear_5 : decode cX9_clear 5 = .ok (.aload_n 0, 1) := by decide +kernel
theorem dX9_clear_6 : decode cX9_clear 6 = .ok (.iconst 0, 1) := by decide +kernel
theorem dX9_clear_7 : decode cX9_clear 7 = .ok (.putfield 19, 3) := by decide +kernel
theorem dX9_clear_10 : decode cX9_clear 10 = .ok (.return_, 1) := by decide +kernel
theorem dX9_isBlankAt_0 : decode cX9_isBlankAt 0 = .ok (.aload_n 0, 1) := by decide +kernel
theorem dX9_isBlankAt_1 : decode cX9_isBlankAt 1 = .ok (.getfield 11, 3) := by decide +kernel
theorem dX9_isBlankAt_4 : decode cX9_isBlankAt 4 = .ok (.iload_n 1, 1) := by decide +kernel
theorem dX9_isBlankAt_5 : decode cX9_isBlankAt 5 = .ok (.caload, 1) := by decide +kernel
theorem dX9_isBlankAt_6 : decode cX9_isBlankAt 6 = .ok (.bipush 32, 2) := by decide +kernel
theorem dX9_isBlankAt_8 : decode cX9_isBlankAt 8 = .ok (.if_icmp .eq 14, 3) := by decide +kernel
theorem dX9_isBlankAt_11 : decode cX9_isBlankAt 11 = .ok (.aload_n 0, 1) := by decide +kernel
theorem dX9_isBlankAt_12 : decode cX9_isBlankAt 12 = .ok (.getfield 11, 3) := by decide +kernel
theorem dX9_isBlankAt_15 : decode cX9_isBlankAt 15 = .ok (.iload_n 1, 1) := by decide +kernel
theorem dX9_isBlankAt_16 : decode cX9_isBlankAt 16 = .ok (.caload, 1) := by decide +kernel
theorem dX9_isBlankAt_17 : decode cX9_isBlankAt 17 = .ok (.bipush 10, 2) := by decide +kernel
theorem dX9_isBlankAt_19 : decode cX9_isBlankAt 19 = .ok (.if_icmp .ne 7, 3) := by decide +kernel
theorem dX9_isBlankAt_22 : decode cX9_isBlankAt 22 = .ok (.iconst 1, 1) := by decide +kernel
theorem dX9_isBlankAt_23 : decode cX9_isBlankAt 23 = .ok (.goto 4, 3) := by decide +kernel
theorem dX9_isBlankAt_26 : decode cX9_isBlankAt 26 = .ok (.iconst 0, 1) := by decide +kernel
theorem dX9_isBlankAt_27 : decode cX9_isBlankAt 27 = .ok (.ireturn, 1) := by decide +kernel
theorem dX9_takeName_0 : decode cX9_takeName 0 = .ok (.aload_n 0, 1) := by decide +kernel
theorem dX9_takeName_1 : decode cX9_takeName 1 = .ok (.getfield 19, 3) := by decide +kernel
theorem dX9_takeName_4 : decode cX9_takeName 4 = .ok (.aload_n 0, 1) := by decide +kernel
theorem dX9_takeName_5 : decode cX9_takeName 5 = .ok (.getfield 15, 3) := by decide +kernel
theorem dX9_takeName_8 : decode cX9_takeName 8 = .ok (.if_icmp .ge 27, 3) := by decide +kernel
theorem dX9_takeName_11 : decode cX9_takeName 11 = .ok (.aload_n 0, 1) := by decide +kernel
theorem dX9_takeName_12 : decode cX9_takeName 12 = .ok (.aload_n 0, 1) := by decide +kernel
theorem dX9_takeName_13 : decode cX9_takeName 13 = .ok (.getfield 19, 3) := by decide +kernel
theorem dX9_takeName_16 : decode cX9_takeName 16 = .ok (.invokevirtual 22, 3) := by decide +kernel
theorem dX9_takeName_19 : decode cX9_takeName 19 = .ok (.ifCond .eq 16, 3) := by decide +kernel
theorem dX9_takeName_22 : decode cX9_takeName 22 = .ok (.aload_n 0, 1) := by decide +kernel
theorem dX9_takeName_23 : decode cX9_takeName 23 = .ok (.dup, 1) := by decide +kernel
theorem dX9_takeName_24 : decode cX9_takeName 24 = .ok (.getfield 19, 3) := by decide +kernel
theorem dX9_takeName_27 : decode cX9_takeName 27 = .ok (.iconst 1, 1) := by decide +kernel
theorem dX9_takeName_28 : decode cX9_takeName 28 = .ok (.iadd, 1) := by decide +kernel
theorem dX9_takeName_29 : decode cX9_takeName 29 = .ok (.putfield 19, 3) := by decide +kernel
theorem dX9_takeName_32 : decode cX9_takeName 32 = .ok (.goto (-32), 3) := by decide +kernel
theorem dX9_takeName_35 : decode cX9_takeName 35 = .ok (.aload_n 0, 1) := by decide +kernel
theorem dX9_takeName_36 : decode cX9_takeName 36 = .ok (.aload_n 0, 1) := by decide +kernel
theorem dX9_takeName_37 : decode cX9_takeName 37 = .ok (.getfield 19, 3) := by decide +kernel
theorem dX9_takeName_40 : decode cX9_takeName 40 = .ok (.putfield 26, 3) := by decide +kernel
theorem dX9_takeName_43 : decode cX9_takeName 43 = .ok (.aload_n 0, 1) := by decide +kernel
theorem dX9_takeName_44 : decode cX9_takeName 44 = .ok (.getfield 19, 3) := by decide +kernel
theorem dX9_takeName_47 : decode cX9_takeName 47 = .ok (.aload_n 0, 1) := by decide +kernel
theorem dX9_takeName_48 : decode cX9_takeName 48 = .ok (.getfield 15, 3) := by decide +kernel
theorem dX9_takeName_51 : decode cX9_takeName 51 = .ok (.if_icmp .ge 27, 3) := by decide +kernel
theorem dX9_takeName_54 : decode cX9_takeName 54 = .ok (.aload_n 0, 1) := by decide +kernel
theorem dX9_takeName_55 : decode cX9_takeName 55 = .ok (.aload_n 0, 1) := by decide +kernel
theorem dX9_takeName_56 : decode cX9_takeName 56 = .ok (.getfield 19, 3) := by decide +kernel
theorem dX9_takeName_59 : decode cX9_takeName 59 = .ok (.invokevirtual 22, 3) := by decide +kernel
theorem dX9_takeName_62 : decode cX9_takeName 62 = .ok (.ifCond .ne 16, 3) := by decide +kernel
theorem dX9_takeName_65 : decode cX9_takeName 65 = .ok (.aload_n 0, 1) := by decide +kernel
theorem dX9_takeName_66 : decode cX9_takeName 66 = .ok (.dup, 1) := by decide +kernel
theorem dX9_takeName_67 : decode cX9_takeName 67 = .ok (.getfield 19, 3) := by decide +kernel
theorem dX9_takeName_70 : decode cX9_takeName 70 = .ok (.iconst 1, 1) := by decide +kernel
theorem dX9_takeName_71 : decode cX9_takeName 71 = .ok (.iadd, 1) := by decide +kernel
theorem dX9_takeName_72 : decode cX9_takeName 72 = .ok (.putfield 19, 3) := by decide +kernel
theorem dX9_takeName_75 : decode cX9_takeName 75 = .ok (.goto (-32), 3) := by decide +kernel
theorem dX9_takeName_78 : decode cX9_takeName 78 = .ok (.aload_n 0, 1) := by decide +kernel
theorem dX9_takeName_79 : decode cX9_takeName 79 = .ok (.aload_n 0, 1) := by decide +kernel
theorem dX9_takeName_80 : decode cX9_takeName 80 = .ok (.getfield 19, 3) := by decide +kernel
theorem dX9_takeName_83 : decode cX9_takeName 83 = .ok (.aload_n 0, 1) := by decide +kernel
theorem dX9_takeName_84 : decode cX9_takeName 84 = .ok (.getfield 26, 3) := by decide +kernel
theorem dX9_takeName_87 : decode cX9_takeName 87 = .ok (.isub, 1) := by decide +kernel
theorem dX9_takeName_88 : decode cX9_takeName 88 = .ok (.putfield 29, 3) := by decide +kernel
theorem dX9_takeName_91 : decode cX9_takeName 91 = .ok (.aload_n 0, 1) := by decide +kernel
theorem dX9_takeName_92 : decode cX9_takeName 92 = .ok (.getfield 19, 3) := by decide +kernel
theorem dX9_takeName_95 : decode cX9_takeName 95 = .ok (.aload_n 0, 1) := by decide +kernel
theorem dX9_takeName_96 : decode cX9_takeName 96 = .ok (.getfield 15, 3) := by decide +kernel
theorem dX9_takeName_99 : decode cX9_takeName 99 = .ok (.if_icmp .ge 13, 3) := by decide +kernel
theorem dX9_takeName_102 : decode cX9_takeName 102 = .ok (.aload_n 0, 1) := by decide +kernel
theorem dX9_takeName_103 : decode cX9_takeName 103 = .ok (.dup, 1) := by decide +kernel
theorem dX9_takeName_104 : decode cX9_takeName 104 = .ok (.getfield 19, 3) := by decide +kernel
theorem dX9_takeName_107 : decode cX9_takeName 107 = .ok (.iconst 1, 1) := by decide +kernel
theorem dX9_takeName_108 : decode cX9_takeName 108 = .ok (.iadd, 1) := by decide +kernel
theorem dX9_takeName_109 : decode cX9_takeName 109 = .ok (.putfield 19, 3) := by decide +kernel
theorem dX9_takeName_112 : decode cX9_takeName 112 = .ok (.aload_n 0, 1) := by decide +kernel
theorem dX9_takeName_113 : decode cX9_takeName 113 = .ok (.getfield 29, 3) := by decide +kernel
theorem dX9_takeName_116 : decode cX9_takeName 116 = .ok (.ifCond .le 7, 3) := by decide +kernel
theorem dX9_takeName_119 : decode cX9_takeName 119 = .ok (.iconst 1, 1) := by decide +kernel
theorem dX9_takeName_120 : decode cX9_takeName 120 = .ok (.goto 4, 3) := by decide +kernel
theorem dX9_takeName_123 : decode cX9_takeName 123 = .ok (.iconst 0, 1) := by decide +kernel
theorem dX9_takeName_124 : decode cX9_takeName 124 = .ok (.ireturn, 1) := by decide +kernel
theorem dX9_parseName_0 : decode cX9_parseName 0 = .ok (.aload_n 0, 1) := by decide +kernel
theorem dX9_parseName_1 : decode cX9_parseName 1 = .ok (.invokevirtual 32, 3) := by decide +kernel
theorem dX9_parseName_4 : decode cX9_parseName 4 = .ok (.ifCond .ne 6, 3) := by decide +kernel
theorem dX9_parseName_7 : decode cX9_parseName 7 = .ok (.bipush (-16), 2) := by decide +kernel
theorem dX9_parseName_9 : decode cX9_parseName 9 = .ok (.ireturn, 1) := by decide +kernel
theorem dX9_parseName_10 : decode cX9_parseName 10 = .ok (.aload_n 0, 1) := by decide +kernel
theorem dX9_parseName_11 : decode cX9_parseName 11 = .ok (.invokevirtual 36, 3) := by decide +kernel
theorem dX9_parseName_14 : decode cX9_parseName 14 = .ok (.ifCond .eq 8, 3) := by decide +kernel
theorem dX9_parseName_17 : decode cX9_parseName 17 = .ok (.bipush (-19), 2) := by decide +kernel
theorem dX9_parseName_19 : decode cX9_parseName 19 = .ok (.goto 4, 3) := by decide +kernel
theorem dX9_parseName_22 : decode cX9_parseName 22 = .ok (.iconst 0, 1) := by decide +kernel
theorem dX9_parseName_23 : decode cX9_parseName 23 = .ok (.ireturn, 1) := by decide +kernel
theorem dX9_nameIsTooLong_0 : decode cX9_nameIsTooLong 0 = .ok (.aload_n 0, 1) := by decide +kernel
theorem dX9_nameIsTooLong_1 : decode cX9_nameIsTooLong 1 = .ok (.getfield 29, 3) := by decide +kernel
theorem dX9_nameIsTooLong_4 : decode cX9_nameIsTooLong 4 = .ok (.bipush 9, 2) := by decide +kernel
theorem dX9_nameIsTooLong_6 : decode cX9_nameIsTooLong 6 = .ok (.if_icmp .le 7, 3) := by decide +kernel
theorem dX9_nameIsTooLong_9 : decode cX9_nameIsTooLong 9 = .ok (.iconst 1, 1) := by decide +kernel
theorem dX9_nameIsTooLong_10 : decode cX9_nameIsTooLong 10 = .ok (.goto 4, 3) := by decide +kernel
theorem dX9_nameIsTooLong_13 : decode cX9_nameIsTooLong 13 = .ok (.iconst 0, 1) := by decide +kernel
theorem dX9_nameIsTooLong_14 : decode cX9_nameIsTooLong 14 = .ok (.ireturn, 1) := by decide +kernel
theorem dX9_nameAt_0 : decode cX9_nameAt 0 = .ok (.aload_n 0, 1) := by decide +kernel
theorem dX9_nameAt_1 : decode cX9_nameAt 1 = .ok (.getfield 11, 3) := by decide +kernel
theorem dX9_nameAt_4 : decode cX9_nameAt 4 = .ok (.aload_n 0, 1) := by decide +kernel
theorem dX9_nameAt_5 : decode cX9_nameAt 5 = .ok (.getfield 26, 3) := by decide +kernel
theorem dX9_nameAt_8 : decode cX9_nameAt 8 = .ok (.iload_n 1, 1) := by decide +kernel
theorem dX9_nameAt_9 : decode cX9_nameAt 9 = .ok (.iadd, 1) := by decide +kernel
theorem dX9_nameAt_10 : decode cX9_nameAt 10 = .ok (.caload, 1) := by decide +kernel
theorem dX9_nameAt_11 : decode cX9_nameAt 11 = .ok (.ireturn, 1) := by decide +kernel
theorem dX9_nameAsNumber_0 : decode cX9_nameAsNumber 0 = .ok (.aload_n 0, 1) := by decide +kernel
theorem dX9_nameAsNumber_1 : decode cX9_nameAsNumber 1 = .ok (.getfield 29, 3) := by decide +kernel
theorem dX9_nameAsNumber_4 : decode cX9_nameAsNumber 4 = .ok (.ifCond .le 17, 3) := by decide +kernel
theorem dX9_nameAsNumber_7 : decode cX9_nameAsNumber 7 = .ok (.aload_n 0, 1) := by decide +kernel
theorem dX9_nameAsNumber_8 : decode cX9_nameAsNumber 8 = .ok (.iconst 0, 1) := by decide +kernel
theorem dX9_nameAsNumber_9 : decode cX9_nameAsNumber 9 = .ok (.invokevirtual 39, 3) := by decide +kernel
theorem dX9_nameAsNumber_12 : decode cX9_nameAsNumber 12 = .ok (.bipush 45, 2) := by decide +kernel
theorem dX9_nameAsNumber_14 : decode cX9_nameAsNumber 14 = .ok (.if_icmp .ne 7, 3) := by decide +kernel
theorem dX9_nameAsNumber_17 : decode cX9_nameAsNumber 17 = .ok (.iconst 1, 1) := by decide +kernel
theorem dX9_nameAsNumber_18 : decode cX9_nameAsNumber 18 = .ok (.goto 4, 3) := by decide +kernel
theorem dX9_nameAsNumber_21 : decode cX9_nameAsNumber 21 = .ok (.iconst 0, 1) := by decide +kernel
theorem dX9_nameAsNumber_22 : decode cX9_nameAsNumber 22 = .ok (.istore_n 1, 1) := by decide +kernel
theorem dX9_nameAsNumber_23 : decode cX9_nameAsNumber 23 = .ok (.iload_n 1, 1) := by decide +kernel
theorem dX9_nameAsNumber_24 : decode cX9_nameAsNumber 24 = .ok (.ifCond .eq 7, 3) := by decide +kernel
theorem dX9_nameAsNumber_27 : decode cX9_nameAsNumber 27 = .ok (.iconst 1, 1) := by decide +kernel
theorem dX9_nameAsNumber_28 : decode cX9_nameAsNumber 28 = .ok (.goto 4, 3) := by decide +kernel
theorem dX9_nameAsNumber_31 : decode cX9_nameAsNumber 31 = .ok (.iconst 0, 1) := by decide +kernel
theorem dX9_nameAsNumber_32 : decode cX9_nameAsNumber 32 = .ok (.istore_n 2, 1) := by decide +kernel
theorem dX9_nameAsNumber_33 : decode cX9_nameAsNumber 33 = .ok (.aload_n 0, 1) := by decide +kernel
theorem dX9_nameAsNumber_34 : decode cX9_nameAsNumber 34 = .ok (.getfield 29, 3) := by decide +kernel
theorem dX9_nameAsNumber_37 : decode cX9_nameAsNumber 37 = .ok (.iload_n 2, 1) := by decide +kernel
theorem dX9_nameAsNumber_38 : decode cX9_nameAsNumber 38 = .ok (.isub, 1) := by decide +kernel
theorem dX9_nameAsNumber_39 : decode cX9_nameAsNumber 39 = .ok (.istore_n 3, 1) := by decide +kernel
theorem dX9_nameAsNumber_40 : decode cX9_nameAsNumber 40 = .ok (.iload_n 3, 1) := by decide +kernel
theorem dX9_nameAsNumber_41 : decode cX9_nameAsNumber 41 = .ok (.iconst 1, 1) := by decide +kernel
theorem dX9_nameAsNumber_42 : decode cX9_nameAsNumber 42 = .ok (.if_icmp .lt 9, 3) := by decide +kernel
theorem dX9_nameAsNumber_45 : decode cX9_nameAsNumber 45 = .ok (.iload_n 3, 1) := by decide +kernel
theorem dX9_nameAsNumber_46 : decode cX9_nameAsNumber 46 = .ok (.bipush 10, 2) := by decide +kernel
theorem dX9_nameAsNumber_48 : decode cX9_nameAsNumber 48 = .ok (.if_icmp .le 7, 3) := by decide +kernel
theorem dX9_nameAsNumber_51 : decode cX9_nameAsNumber 51 = .ok (.ldc2_w 43, 3) := by decide +kernel
theorem dX9_nameAsNumber_54 : decode cX9_nameAsNumber 54 = .ok (.lreturn, 1) := by decide +kernel
theorem dX9_nameAsNumber_55 : decode cX9_nameAsNumber 55 = .ok (.lconst 0, 1) := by decide +kernel
theorem dX9_nameAsNumber_56 : decode cX9_nameAsNumber 56 = .ok (.lstore 4, 2) := by decide +kernel
theorem dX9_nameAsNumber_58 : decode cX9_nameAsNumber 58 = .ok (.iload_n 2, 1) := by decide +kernel
theorem dX9_nameAsNumber_59 : decode cX9_nameAsNumber 59 = .ok (.istore 6, 2) := by decide +kernel
theorem dX9_nameAsNumber_61 : decode cX9_nameAsNumber 61 = .ok (.iload 6, 2) := by decide +kernel
theorem dX9_nameAsNumber_63 : decode cX9_nameAsNumber 63 = .ok (.aload_n 0, 1) := by decide +kernel
theorem dX9_nameAsNumber_64 : decode cX9_nameAsNumber 64 = .ok (.getfield 29, 3) := by decide +kernel
theorem dX9_nameAsNumber_67 : decode cX9_nameAsNumber 67 = .ok (.if_icmp .ge 50, 3) := by decide +kernel
theorem dX9_nameAsNumber_70 : decode cX9_nameAsNumber 70 = .ok (.aload_n 0, 1) := by decide +kernel
theorem dX9_nameAsNumber_71 : decode cX9_nameAsNumber 71 = .ok (.iload 6, 2) := by decide +kernel
theorem dX9_nameAsNumber_73 : decode cX9_nameAsNumber 73 = .ok (.invokevirtual 39, 3) := by decide +kernel
theorem dX9_nameAsNumber_76 : decode cX9_nameAsNumber 76 = .ok (.istore 7, 2) := by decide +kernel
theorem dX9_nameAsNumber_78 : decode cX9_nameAsNumber 78 = .ok (.iload 7, 2) := by decide +kernel
theorem dX9_nameAsNumber_80 : decode cX9_nameAsNumber 80 = .ok (.bipush 48, 2) := by decide +kernel
theorem dX9_nameAsNumber_82 : decode cX9_nameAsNumber 82 = .ok (.if_icmp .lt 10, 3) := by decide +kernel
theorem dX9_nameAsNumber_85 : decode cX9_nameAsNumber 85 = .ok (.iload 7, 2) := by decide +kernel
theorem dX9_nameAsNumber_87 : decode cX9_nameAsNumber 87 = .ok (.bipush 57, 2) := by decide +kernel
theorem dX9_nameAsNumber_89 : decode cX9_nameAsNumber 89 = .ok (.if_icmp .le 7, 3) := by decide +kernel
theorem dX9_nameAsNumber_92 : decode cX9_nameAsNumber 92 = .ok (.ldc2_w 43, 3) := by decide +kernel
theorem dX9_nameAsNumber_95 : decode cX9_nameAsNumber 95 = .ok (.lreturn, 1) := by decide +kernel
theorem dX9_nameAsNumber_96 : decode cX9_nameAsNumber 96 = .ok (.lload 4, 2) := by decide +kernel
theorem dX9_nameAsNumber_98 : decode cX9_nameAsNumber 98 = .ok (.ldc2_w 45, 3) := by decide +kernel
theorem dX9_nameAsNumber_101 : decode cX9_nameAsNumber 101 = .ok (.lmul, 1) := by decide +kernel
theorem dX9_nameAsNumber_102 : decode cX9_nameAsNumber 102 = .ok (.iload 7, 2) := by decide +kernel
theorem dX9_nameAsNumber_104 : decode cX9_nameAsNumber 104 = .ok (.bipush 48, 2) := by decide +kernel
theorem dX9_nameAsNumber_106 : decode cX9_nameAsNumber 106 = .ok (.isub, 1) := by decide +kernel
theorem dX9_nameAsNumber_107 : decode cX9_nameAsNumber 107 = .ok (.i2l, 1) := by decide +kernel
theorem dX9_nameAsNumber_108 : decode cX9_nameAsNumber 108 = .ok (.ladd, 1) := by decide +kernel
theorem dX9_nameAsNumber_109 : decode cX9_nameAsNumber 109 = .ok (.lstore 4, 2) := by decide +kernel
theorem dX9_nameAsNumber_111 : decode cX9_nameAsNumber 111 = .ok (.iinc 6 1, 3) := by decide +kernel
theorem dX9_nameAsNumber_114 : decode cX9_nameAsNumber 114 = .ok (.goto (-53), 3) := by decide +kernel
theorem dX9_nameAsNumber_117 : decode cX9_nameAsNumber 117 = .ok (.iload_n 1, 1) := by decide +kernel
theorem dX9_nameAsNumber_118 : decode cX9_nameAsNumber 118 = .ok (.ifCond .eq 9, 3) := by decide +kernel
theorem dX9_nameAsNumber_121 : decode cX9_nameAsNumber 121 = .ok (.lload 4, 2) := by decide +kernel
theorem dX9_nameAsNumber_123 : decode cX9_nameAsNumber 123 = .ok (.lneg, 1) := by decide +kernel
theorem dX9_nameAsNumber_124 : decode cX9_nameAsNumber 124 = .ok (.goto 5, 3) := by decide +kernel
theorem dX9_nameAsNumber_127 : decode cX9_nameAsNumber 127 = .ok (.lload 4, 2) := by decide +kernel
theorem dX9_nameAsNumber_129 : decode cX9_nameAsNumber 129 = .ok (.lstore 4, 2) := by decide +kernel
theorem dX9_nameAsNumber_131 : decode cX9_nameAsNumber 131 = .ok (.lload 4, 2) := by decide +kernel
theorem dX9_nameAsNumber_133 : decode cX9_nameAsNumber 133 = .ok (.ldc2_w 47, 3) := by decide +kernel
theorem dX9_nameAsNumber_136 : decode cX9_nameAsNumber 136 = .ok (.lcmp, 1) := by decide +kernel
theorem dX9_nameAsNumber_137 : decode cX9_nameAsNumber 137 = .ok (.ifCond .lt 16, 3) := by decide +kernel
theorem dX9_nameAsNumber_140 : decode cX9_nameAsNumber 140 = .ok (.lload 4, 2) := by decide +kernel
theorem dX9_nameAsNumber_142 : decode cX9_nameAsNumber 142 = .ok (.ldc2_w 49, 3) := by decide +kernel
theorem dX9_nameAsNumber_145 : decode cX9_nameAsNumber 145 = .ok (.lcmp, 1) := by decide +kernel
theorem dX9_nameAsNumber_146 : decode cX9_nameAsNumber 146 = .ok (.ifCond .gt 7, 3) := by decide +kernel
theorem dX9_nameAsNumber_149 : decode cX9_nameAsNumber 149 = .ok (.iconst 1, 1) := by decide +kernel
theorem dX9_nameAsNumber_150 : decode cX9_nameAsNumber 150 = .ok (.goto 4, 3) := by decide +kernel
theorem dX9_nameAsNumber_153 : decode cX9_nameAsNumber 153 = .ok (.iconst 0, 1) := by decide +kernel
theorem dX9_nameAsNumber_154 : decode cX9_nameAsNumber 154 = .ok (.istore 6, 2) := by decide +kernel
theorem dX9_nameAsNumber_156 : decode cX9_nameAsNumber 156 = .ok (.iload 6, 2) := by decide +kernel
theorem dX9_nameAsNumber_158 : decode cX9_nameAsNumber 158 = .ok (.ifCond .eq 8, 3) := by decide +kernel
theorem dX9_nameAsNumber_161 : decode cX9_nameAsNumber 161 = .ok (.lload 4, 2) := by decide +kernel
theorem dX9_nameAsNumber_163 : decode cX9_nameAsNumber 163 = .ok (.goto 6, 3) := by decide +kernel
theorem dX9_nameAsNumber_166 : decode cX9_nameAsNumber 166 = .ok (.ldc2_w 43, 3) := by decide +kernel
theorem dX9_nameAsNumber_169 : decode cX9_nameAsNumber 169 = .ok (.lreturn, 1) := by decide +kernel
theorem dX9_passComment_0 : decode cX9_passComment 0 = .ok (.aload_n 0, 1) := by decide +kernel
theorem dX9_passComment_1 : decode cX9_passComment 1 = .ok (.getfield 19, 3) := by decide +kernel
theorem dX9_passComment_4 : decode cX9_passComment 4 = .ok (.aload_n 0, 1) := by decide +kernel
theorem dX9_passComment_5 : decode cX9_passComment 5 = .ok (.getfield 15, 3) := by decide +kernel
theorem dX9_passComment_8 : decode cX9_passComment 8 = .ok (.if_icmp .ge 30, 3) := by decide +kernel
theorem dX9_passComment_11 : decode cX9_passComment 11 = .ok (.aload_n 0, 1) := by decide +kernel
theorem dX9_passComment_12 : decode cX9_passComment 12 = .ok (.getfield 11, 3) := by decide +kernel
theorem dX9_passComment_15 : decode cX9_passComment 15 = .ok (.aload_n 0, 1) := by decide +kernel
theorem dX9_passComment_16 : decode cX9_passComment 16 = .ok (.getfield 19, 3) := by decide +kernel
theorem dX9_passComment_19 : decode cX9_passComment 19 = .ok (.caload, 1) := by decide +kernel
theorem dX9_passComment_20 : decode cX9_passComment 20 = .ok (.bipush 41, 2) := by decide +kernel
theorem dX9_passComment_22 : decode cX9_passComment 22 = .ok (.if_icmp .eq 16, 3) := by decide +kernel
theorem dX9_passComment_25 : decode cX9_passComment 25 = .ok (.aload_n 0, 1) := by decide +kernel
theorem dX9_passComment_26 : decode cX9_passComment 26 = .ok (.dup, 1) := by decide +kernel
theorem dX9_passComment_27 : decode cX9_passComment 27 = .ok (.getfield 19, 3) := by decide +kernel
theorem dX9_passComment_30 : decode cX9_passComment 30 = .ok (.iconst 1, 1) := by decide +kernel
theorem dX9_passComment_31 : decode cX9_passComment 31 = .ok (.iadd, 1) := by decide +kernel
theorem dX9_passComment_32 : decode cX9_passComment 32 = .ok (.putfield 19, 3) := by decide +kernel
theorem dX9_passComment_35 : decode cX9_passComment 35 = .ok (.goto (-35), 3) := by decide +kernel
theorem dX9_passComment_38 : decode cX9_passComment 38 = .ok (.aload_n 0, 1) := by decide +kernel
theorem dX9_passComment_39 : decode cX9_passComment 39 = .ok (.getfield 19, 3) := by decide +kernel
theorem dX9_passComment_42 : decode cX9_passComment 42 = .ok (.aload_n 0, 1) := by decide +kernel
theorem dX9_passComment_43 : decode cX9_passComment 43 = .ok (.getfield 15, 3) := by decide +kernel
theorem dX9_passComment_46 : decode cX9_passComment 46 = .ok (.if_icmp .ge 13, 3) := by decide +kernel
theorem dX9_passComment_49 : decode cX9_passComment 49 = .ok (.aload_n 0, 1) := by decide +kernel
theorem dX9_passComment_50 : decode cX9_passComment 50 = .ok (.dup, 1) := by decide +kernel
theorem dX9_passComment_51 : decode cX9_passComment 51 = .ok (.getfield 19, 3) := by decide +kernel
theorem dX9_passComment_54 : decode cX9_passComment 54 = .ok (.iconst 1, 1) := by decide +kernel
theorem dX9_passComment_55 : decode cX9_passComment 55 = .ok (.iadd, 1) := by decide +kernel
theorem dX9_passComment_56 : decode cX9_passComment 56 = .ok (.putfield 19, 3) := by decide +kernel
theorem dX9_passComment_59 : decode cX9_passComment 59 = .ok (.return_, 1) := by decide +kernel
theorem dX11_init_0 : decode cX11_init 0 = .ok (.aload_n 0, 1) := by decide +kernel
theorem dX11_init_1 : decode cX11_init 1 = .ok (.invokespecial 1, 3) := by decide +kernel
theorem dX11_init_4 : decode cX11_init 4 = .ok (.aload_n 0, 1) := by decide +kernel
theorem dX11_init_5 : decode cX11_init 5 = .ok (.new 7, 3) := by decide +kernel
theorem dX11_init_8 : decode cX11_init 8 = .ok (.dup, 1) := by decide +kernel
theorem dX11_init_9 : decode cX11_init 9 = .ok (.invokespecial 9, 3) := by decide +kernel
theorem dX11_init_12 : decode cX11_init 12 = .ok (.putfield 10, 3) := by decide +kernel
theorem dX11_init_15 : decode cX11_init 15 = .ok (.return_, 1) := by decide +kernel
theorem dX11_type_0 : decode cX11_type 0 = .ok (.aload_n 0, 1) := by decide +kernel
theorem dX11_type_1 : decode cX11_type 1 = .ok (.getfield 10, 3) := by decide +kernel
theorem dX11_type_4 : decode cX11_type 4 = .ok (.getfield 16, 3) := by decide +kernel
theorem dX11_type_7 : decode cX11_type 7 = .ok (.iload_n 1, 1) := by decide +kernel
theorem dX11_type_8 : decode cX11_type 8 = .ok (.invokevirtual 20, 3) := by decide +kernel
theorem dX11_type_11 : decode cX11_type 11 = .ok (.ireturn, 1) := by decide +kernel
theorem dX11_run_0 : decode cX11_run 0 = .ok (.iload_n 1, 1) := by decide +kernel
theorem dX11_run_1 : decode cX11_run 1 = .ok (.ifCond .lt 10, 3) := by decide +kernel
theorem dX11_run_4 : decode cX11_run 4 = .ok (.iload_n 1, 1) := by decide +kernel
theorem dX11_run_5 : decode cX11_run 5 = .ok (.sipush 3000, 3) := by decide +kernel
theorem dX11_run_8 : decode cX11_run 8 = .ok (.if_icmp .le 13, 3) := by decide +kernel
theorem dX11_run_11 : decode cX11_run 11 = .ok (.new 26, 3) := by decide +kernel
theorem dX11_run_14 : decode cX11_run 14 = .ok (.dup, 1) := by decide +kernel
theorem dX11_run_15 : decode cX11_run 15 = .ok (.ldc 28, 2) := by decide +kernel
theorem dX11_run_17 : decode cX11_run 17 = .ok (.invokespecial 30, 3) := by decide +kernel
theorem dX11_run_20 : decode cX11_run 20 = .ok (.athrow, 1) := by decide +kernel
theorem dX11_run_21 : decode cX11_run 21 = .ok (.aload_n 0, 1) := by decide +kernel
theorem dX11_run_22 : decode cX11_run 22 = .ok (.getfield 10, 3) := by decide +kernel
theorem dX11_run_25 : decode cX11_run 25 = .ok (.iload_n 1, 1) := by decide +kernel
theorem dX11_run_26 : decode cX11_run 26 = .ok (.invokevirtual 33, 3) := by decide +kernel
theorem dX11_run_29 : decode cX11_run 29 = .ok (.ireturn, 1) := by decide +kernel
theorem dX11_output_0 : decode cX11_output 0 = .ok (.iload_n 1, 1) := by decide +kernel
theorem dX11_output_1 : decode cX11_output 1 = .ok (.ifCond .lt 17, 3) := by decide +kernel
theorem dX11_output_4 : decode cX11_output 4 = .ok (.iload_n 1, 1) := by decide +kernel
theorem dX11_output_5 : decode cX11_output 5 = .ok (.aload_n 0, 1) := by decide +kernel
theorem dX11_output_6 : decode cX11_output 6 = .ok (.getfield 10, 3) := by decide +kernel
theorem dX11_output_9 : decode cX11_output 9 = .ok (.getfield 37, 3) := by decide +kernel
theorem dX11_output_12 : decode cX11_output 12 = .ok (.getfield 41, 3) := by decide +kernel
theorem dX11_output_15 : decode cX11_output 15 = .ok (.if_icmp .lt 13, 3) := by decide +kernel
theorem dX11_output_18 : decode cX11_output 18 = .ok (.new 47, 3) := by decide +kernel
theorem dX11_output_21 : decode cX11_output 21 = .ok (.dup, 1) := by decide +kernel
theorem dX11_output_22 : decode cX11_output 22 = .ok (.ldc 49, 2) := by decide +kernel
theorem dX11_output_24 : decode cX11_output 24 = .ok (.invokespecial 51, 3) := by decide +kernel
theorem dX11_output_27 : decode cX11_output 27 = .ok (.athrow, 1) := by decide +kernel
theorem dX11_output_28 : decode cX11_output 28 = .ok (.aload_n 0, 1) := by decide +kernel
theorem dX11_output_29 : decode cX11_output 29 = .ok (.getfield 10, 3) := by decide +kernel
theorem dX11_output_32 : decode cX11_output 32 = .ok (.getfield 37, 3) := by decide +kernel
theorem dX11_output_35 : decode cX11_output 35 = .ok (.getfield 52, 3) := by decide +kernel
theorem dX11_output_38 : decode cX11_output 38 = .ok (.iload_n 1, 1) := by decide +kernel
theorem dX11_output_39 : decode cX11_output 39 = .ok (.caload, 1) := by decide +kernel
theorem dX11_output_40 : decode cX11_output 40 = .ok (.ireturn, 1) := by decide +kernel
theorem dX11_stack_0 : decode cX11_stack 0 = .ok (.iload_n 1, 1) := by decide +kernel
theorem dX11_stack_1 : decode cX11_stack 1 = .ok (.ifCond .lt 17, 3) := by decide +kernel
theorem dX11_stack_4 : decode cX11_stack 4 = .ok (.iload_n 1, 1) := by decide +kernel
theorem dX11_stack_5 : decode cX11_stack 5 = .ok (.aload_n 0, 1) := by decide +kernel
theorem dX11_stack_6 : decode cX11_stack 6 = .ok (.getfield 10, 3) := by decide +kernel
theorem dX11_stack_9 : decode cX11_stack 9 = .ok (.getfield 56, 3) := by decide +kernel
theorem dX11_stack_12 : decode cX11_stack 12 = .ok (.getfield 60, 3) := by decide +kernel
theorem dX11_stack_15 : decode cX11_stack 15 = .ok (.if_icmp .lt 13, 3) := by decide +kernel
theorem dX11_stack_18 : decode cX11_stack 18 = .ok (.new 47, 3) := by decide +kernel
theorem dX11_stack_21 : decode cX11_stack 21 = .ok (.dup, 1) := by decide +kernel
theorem dX11_stack_22 : decode cX11_stack 22 = .ok (.ldc 63, 2) := by decide +kernel
theorem dX11_stack_24 : decode cX11_stack 24 = .ok (.invokespecial 51, 3) := by decide +kernel
theorem dX11_stack_27 : decode cX11_stack 27 = .ok (.athrow, 1) := by decide +kernel
theorem dX11_stack_28 : decode cX11_stack 28 = .ok (.aload_n 0, 1) := by decide +kernel
theorem dX11_stack_29 : decode cX11_stack 29 = .ok (.getfield 10, 3) := by decide +kernel
theorem dX11_stack_32 : decode cX11_stack 32 = .ok (.getfield 56, 3) := by decide +kernel
theorem dX11_stack_35 : decode cX11_stack 35 = .ok (.getfield 65, 3) := by decide +kernel
theorem dX11_stack_38 : decode cX11_stack 38 = .ok (.iload_n 1, 1) := by decide +kernel
theorem dX11_stack_39 : decode cX11_stack 39 = .ok (.iaload, 1) := by decide +kernel
theorem dX11_stack_40 : decode cX11_stack 40 = .ok (.ireturn, 1) := by decide +kernel
theorem dX11_cell_0 : decode cX11_cell 0 = .ok (.aload_n 0, 1) := by decide +kernel
theorem dX11_cell_1 : decode cX11_cell 1 = .ok (.getfield 10, 3) := by decide +kernel
theorem dX11_cell_4 : decode cX11_cell 4 = .ok (.getfield 69, 3) := by decide +kernel
theorem dX11_cell_7 : decode cX11_cell 7 = .ok (.iload_n 1, 1) := by decide +kernel
theorem dX11_cell_8 : decode cX11_cell 8 = .ok (.invokevirtual 73, 3) := by decide +kernel
theorem dX11_cell_11 : decode cX11_cell 11 = .ok (.ifCond .ne 13, 3) := by decide +kernel
theorem dX11_cell_14 : decode cX11_cell 14 = .ok (.new 47, 3) := by decide +kernel
theorem dX11_cell_17 : decode cX11_cell 17 = .ok (.dup, 1) := by decide +kernel
theorem dX11_cell_18 : decode cX11_cell 18 = .ok (.ldc 79, 2) := by decide +kernel
theorem dX11_cell_20 : decode cX11_cell 20 = .ok (.invokespecial 51, 3) := by decide +kernel
theorem dX11_cell_23 : decode cX11_cell 23 = .ok (.athrow, 1) := by decide +kernel
theorem dX11_cell_24 : decode cX11_cell 24 = .ok (.aload_n 0, 1) := by decide +kernel
theorem dX11_cell_25 : decode cX11_cell 25 = .ok (.getfield 10, 3) := by decide +kernel
theorem dX11_cell_28 : decode cX11_cell 28 = .ok (.getfield 69, 3) := by decide +kernel
theorem dX11_cell_31 : decode cX11_cell 31 = .ok (.iload_n 1, 1) := by decide +kernel
theorem dX11_cell_32 : decode cX11_cell 32 = .ok (.invokevirtual 81, 3) := by decide +kernel
theorem dX11_cell_35 : decode cX11_cell 35 = .ok (.ireturn, 1) := by decide +kernel
theorem dX11_word_0 : decode cX11_word 0 = .ok (.aload_n 0, 1) := by decide +kernel
theorem dX11_word_1 : decode cX11_word 1 = .ok (.getfield 10, 3) := by decide +kernel
theorem dX11_word_4 : decode cX11_word 4 = .ok (.getfield 84, 3) := by decide +kernel
theorem dX11_word_7 : decode cX11_word 7 = .ok (.astore_n 3, 1) := by decide +kernel
theorem dX11_word_8 : decode cX11_word 8 = .ok (.iload_n 1, 1) := by decide +kernel
theorem dX11_word_9 : decode cX11_word 9 = .ok (.ifCond .lt 11, 3) := by decide +kernel
theorem dX11_word_12 : decode cX11_word 12 = .ok (.iload_n 1, 1) := by decide +kernel
theorem dX11_word_13 : decode cX11_word 13 = .ok (.aload_n 3, 1) := by decide +kernel
theorem dX11_word_14 : decode cX11_word 14 = .ok (.getfield 88, 3) := by decide +kernel
theorem dX11_word_17 : decode cX11_word 17 = .ok (.if_icmp .lt 13, 3) := by decide +kernel
theorem dX11_word_20 : decode cX11_word 20 = .ok (.new 47, 3) := by decide +kernel
theorem dX11_word_23 : decode cX11_word 23 = .ok (.dup, 1) := by decide +kernel
theorem dX11_word_24 : decode cX11_word 24 = .ok (.ldc 91, 2) := by decide +kernel
theorem dX11_word_26 : decode cX11_word 26 = .ok (.invokespecial 51, 3) := by decide +kernel
theorem dX11_word_29 : decode cX11_word 29 = .ok (.athrow, 1) := by decide +kernel
theorem dX11_word_30 : decode cX11_word 30 = .ok (.iload_n 2, 1) := by decide +kernel
theorem dX11_word_31 : decode cX11_word 31 = .ok (.tableswitch 84 0 4 #[33, 40, 47, 62, 69], 33) := by decide +kernel
theorem dX11_word_64 : decode cX11_word 64 = .ok (.aload_n 3, 1) := by decide +kernel
theorem dX11_word_65 : decode cX11_word 65 = .ok (.getfield 93, 3) := by decide +kernel
theorem dX11_word_68 : decode cX11_word 68 = .ok (.iload_n 1, 1) := by decide +kernel
theorem dX11_word_69 : decode cX11_word 69 = .ok (.iaload, 1) := by decide +kernel
theorem dX11_word_70 : decode cX11_word 70 = .ok (.ireturn, 1) := by decide +kernel
theorem dX11_word_71 : decode cX11_word 71 = .ok (.aload_n 3, 1) := by decide +kernel
theorem dX11_word_72 : decode cX11_word 72 = .ok (.getfield 96, 3) := by decide +kernel
theorem dX11_word_75 : decode cX11_word 75 = .ok (.iload_n 1, 1) := by decide +kernel
theorem dX11_word_76 : decode cX11_word 76 = .ok (.iaload, 1) := by decide +kernel
theorem dX11_word_77 : decode cX11_word 77 = .ok (.ireturn, 1) := by decide +kernel
theorem dX11_word_78 : decode cX11_word 78 = .ok (.aload_n 3, 1) := by decide +kernel
theorem dX11_word_79 : decode cX11_word 79 = .ok (.getfield 99, 3) := by decide +kernel
theorem dX11_word_82 : decode cX11_word 82 = .ok (.iload_n 1, 1) := by decide +kernel
theorem dX11_word_83 : decode cX11_word 83 = .ok (.baload, 1) := by decide +kernel
theorem dX11_word_84 : decode cX11_word 84 = .ok (.ifCond .eq 7, 3) := by decide +kernel
theorem dX11_word_87 : decode cX11_word 87 = .ok (.iconst 1, 1) := by decide +kernel
theorem dX11_word_88 : decode cX11_word 88 = .ok (.goto 4, 3) := by decide +kernel
theorem dX11_word_91 : decode cX11_word 91 = .ok (.iconst 0, 1) := by decide +kernel
theorem dX11_word_92 : decode cX11_word 92 = .ok (.ireturn, 1) := by decide +kernel
theorem dX11_word_93 : decode cX11_word 93 = .ok (.aload_n 3, 1) := by decide +kernel
theorem dX11_word_94 : decode cX11_word 94 = .ok (.getfield 103, 3) := by decide +kernel
theorem dX11_word_97 : decode cX11_word 97 = .ok (.iload_n 1, 1) := by decide +kernel
theorem dX11_word_98 : decode cX11_word 98 = .ok (.iaload, 1) := by decide +kernel
theorem dX11_word_99 : decode cX11_word 99 = .ok (.ireturn, 1) := by decide +kernel
theorem dX11_word_100 : decode cX11_word 100 = .ok (.aload_n 3, 1) := by decide +kernel
theorem dX11_word_101 : decode cX11_word 101 = .ok (.getfield 106, 3) := by decide +kernel
theorem dX11_word_104 : decode cX11_word 104 = .ok (.iload_n 1, 1) := by decide +kernel
theorem dX11_word_105 : decode cX11_word 105 = .ok (.baload, 1) := by decide +kernel
theorem dX11_word_106 : decode cX11_word 106 = .ok (.ifCond .eq 7, 3) := by decide +kernel
theorem dX11_word_109 : decode cX11_word 109 = .ok (.iconst 1, 1) := by decide +kernel
theorem dX11_word_110 : decode cX11_word 110 = .ok (.goto 4, 3) := by decide +kernel
theorem dX11_word_113 : decode cX11_word 113 = .ok (.iconst 0, 1) := by decide +kernel
theorem dX11_word_114 : decode cX11_word 114 = .ok (.ireturn, 1) := by decide +kernel
theorem dX11_word_115 : decode cX11_word 115 = .ok (.new 26, 3) := by decide +kernel
theorem dX11_word_118 : decode cX11_word 118 = .ok (.dup, 1) := by decide +kernel
theorem dX11_word_119 : decode cX11_word 119 = .ok (.ldc 109, 2) := by decide +kernel
theorem dX11_word_121 : decode cX11_word 121 = .ok (.invokespecial 30, 3) := by decide +kernel
theorem dX11_word_124 : decode cX11_word 124 = .ok (.athrow, 1) := by decide +kernel
theorem dX11_count_0 : decode cX11_count 0 = .ok (.iload_n 1, 1) := by decide +kernel
theorem dX11_count_1 : decode cX11_count 1 = .ok (.tableswitch 155 0 8 #[51, 62, 73, 84, 95, 106, 125, 133, 141], 51) := by decide +kernel
theorem dX11_count_52 : decode cX11_count 52 = .ok (.aload_n 0, 1) := by decide +kernel
theorem dX11_count_53 : decode cX11_count 53 = .ok (.getfield 10, 3) := by decide +kernel
theorem dX11_count_56 : decode cX11_count 56 = .ok (.getfield 37, 3) := by decide +kernel
theorem dX11_count_59 : decode cX11_count 59 = .ok (.getfield 41, 3) := by decide +kernel
theorem dX11_count_62 : decode cX11_count 62 = .ok (.ireturn, 1) := by decide +kernel
theorem dX11_count_63 : decode cX11_count 63 = .ok (.aload_n 0, 1) := by decide +kernel
theorem dX11_count_64 : decode cX11_count 64 = .ok (.getfield 10, 3) := by decide +kernel
theorem dX11_count_67 : decode cX11_count 67 = .ok (.getfield 56, 3) := by decide +kernel
theorem dX11_count_70 : decode cX11_count 70 = .ok (.getfield 60, 3) := by decide +kernel
theorem dX11_count_73 : decode cX11_count 73 = .ok (.ireturn, 1) := by decide +kernel
theorem dX11_count_74 : decode cX11_count 74 = .ok (.aload_n 0, 1) := by decide +kernel
theorem dX11_count_75 : decode cX11_count 75 = .ok (.getfield 10, 3) := by decide +kernel
theorem dX11_count_78 : decode cX11_count 78 = .ok (.getfield 111, 3) := by decide +kernel
theorem dX11_count_81 : decode cX11_count 81 = .ok (.getfield 60, 3) := by decide +kernel
theorem dX11_count_84 : decode cX11_count 84 = .ok (.ireturn, 1) := by decide +kernel
theorem dX11_count_85 : decode cX11_count 85 = .ok (.aload_n 0, 1) := by decide +kernel
theorem dX11_count_86 : decode cX11_count 86 = .ok (.getfield 10, 3) := by decide +kernel
theorem dX11_count_89 : decode cX11_count 89 = .ok (.getfield 69, 3) := by decide +kernel
theorem dX11_count_92 : decode cX11_count 92 = .ok (.getfield 114, 3) := by decide +kernel
theorem dX11_count_95 : decode cX11_count 95 = .ok (.ireturn, 1) := by decide +kernel
theorem dX11_count_96 : decode cX11_count 96 = .ok (.aload_n 0, 1) := by decide +kernel
theorem dX11_count_97 : decode cX11_count 97 = .ok (.getfield 10, 3) := by decide +kernel
theorem dX11_count_100 : decode cX11_count 100 = .ok (.getfield 84, 3) := by decide +kernel
theorem dX11_count_103 : decode cX11_count 103 = .ok (.getfield 88, 3) := by decide +kernel
theorem dX11_count_106 : decode cX11_count 106 = .ok (.ireturn, 1) := by decide +kernel
theorem dX11_count_107 : decode cX11_count 107 = .ok (.aload_n 0, 1) := by decide +kernel
theorem dX11_count_108 : decode cX11_count 108 = .ok (.getfield 10, 3) := by decide +kernel
theorem dX11_count_111 : decode cX11_count 111 = .ok (.getfield 117, 3) := by decide +kernel
theorem dX11_count_114 : decode cX11_count 114 = .ok (.getfield 121, 3) := by decide +kernel
theorem dX11_count_117 : decode cX11_count 117 = .ok (.ifCond .eq 7, 3) := by decide +kernel
theorem dX11_count_120 : decode cX11_count 120 = .ok (.iconst 1, 1) := by decide +kernel
theorem dX11_count_121 : decode cX11_count 121 = .ok (.goto 4, 3) := by decide +kernel
theorem dX11_count_124 : decode cX11_count 124 = .ok (.iconst 0, 1) := by decide +kernel
theorem dX11_count_125 : decode cX11_count 125 = .ok (.ireturn, 1) := by decide +kernel
theorem dX11_count_126 : decode cX11_count 126 = .ok (.aload_n 0, 1) := by decide +kernel
theorem dX11_count_127 : decode cX11_count 127 = .ok (.getfield 10, 3) := by decide +kernel
theorem dX11_count_130 : decode cX11_count 130 = .ok (.getfield 127, 3) := by decide +kernel
theorem dX11_count_133 : decode cX11_count 133 = .ok (.ireturn, 1) := by decide +kernel
theorem dX11_count_134 : decode cX11_count 134 = .ok (.aload_n 0, 1) := by decide +kernel
theorem dX11_count_135 : decode cX11_count 135 = .ok (.getfield 10, 3) := by decide +kernel
theorem dX11_count_138 : decode cX11_count 138 = .ok (.getfield 130, 3) := by decide +kernel
theorem dX11_count_141 : decode cX11_count 141 = .ok (.ireturn, 1) := by decide +kernel
theorem dX11_count_142 : decode cX11_count 142 = .ok (.aload_n 0, 1) := by decide +kernel
theorem dX11_count_143 : decode cX11_count 143 = .ok (.getfield 10, 3) := by decide +kernel
theorem dX11_count_146 : decode cX11_count 146 = .ok (.getfield 117, 3) := by decide +kernel
theorem dX11_count_149 : decode cX11_count 149 = .ok (.getfield 133, 3) := by decide +kernel
theorem dX11_count_152 : decode cX11_count 152 = .ok (.getfield 137, 3) := by decide +kernel
theorem dX11_count_155 : decode cX11_count 155 = .ok (.ireturn, 1) := by decide +kernel
theorem dX11_count_156 : decode cX11_count 156 = .ok (.iconst (-1), 1) := by decide +kernel
theorem dX11_count_157 : decode cX11_count 157 = .ok (.ireturn, 1) := by decide +kernel
theorem dX12_init_0 : decode cX12_init 0 = .ok (.aload_n 0, 1) := by decide +kernel
theorem dX12_init_1 : decode cX12_init 1 = .ok (.invokespecial 1, 3) := by decide +kernel
theorem dX12_init_4 : decode cX12_init 4 = .ok (.aload_n 0, 1) := by decide +kernel
theorem dX12_init_5 : decode cX12_init 5 = .ok (.bipush 40, 2) := by decide +kernel
theorem dX12_init_7 : decode cX12_init 7 = .ok (.newarray .long, 2) := by decide +kernel
theorem dX12_init_9 : decode cX12_init 9 = .ok (.dup, 1) := by decide +kernel
theorem dX12_init_10 : decode cX12_init 10 = .ok (.iconst 0, 1) := by decide +kernel
theorem dX12_init_11 : decode cX12_init 11 = .ok (.ldc2_w 7, 3) := by decide +kernel
theorem dX12_init_14 : decode cX12_init 14 = .ok (.lastore, 1) := by decide +kernel
theorem dX12_init_15 : decode cX12_init 15 = .ok (.dup, 1) := by decide +kernel
theorem dX12_init_16 : decode cX12_init 16 = .ok (.iconst 1, 1) := by decide +kernel
theorem dX12_init_17 : decode cX12_init 17 = .ok (.lconst 0, 1) := by decide +kernel
theorem dX12_init_18 : decode cX12_init 18 = .ok (.lastore, 1) := by decide +kernel
theorem dX12_init_19 : decode cX12_init 19 = .ok (.dup, 1) := by decide +kernel
theorem dX12_init_20 : decode cX12_init 20 = .ok (.iconst 2, 1) := by decide +kernel
theorem dX12_init_21 : decode cX12_init 21 = .ok (.lconst 0, 1) := by decide +kernel
theorem dX12_init_22 : decode cX12_init 22 = .ok (.lastore, 1) := by decide +kernel
theorem dX12_init_23 : decode cX12_init 23 = .ok (.dup, 1) := by decide +kernel
theorem dX12_init_24 : decode cX12_init 24 = .ok (.iconst 3, 1) := by decide +kernel
theorem dX12_init_25 : decode cX12_init 25 = .ok (.lconst 0, 1) := by decide +kernel
theorem dX12_init_26 : decode cX12_init 26 = .ok (.lastore, 1) := by decide +kernel
theorem dX12_init_27 : decode cX12_init 27 = .ok (.dup, 1) := by decide +kernel
theorem dX12_init_28 : decode cX12_init 28 = .ok (.iconst 4, 1) := by decide +kernel
theorem dX12_init_29 : decode cX12_init 29 = .ok (.lconst 0, 1) := by decide +kernel
theorem dX12_init_30 : decode cX12_init 30 = .ok (.lastore, 1) := by decide +kernel
theorem dX12_init_31 : decode cX12_init 31 = .ok (.dup, 1) := by decide +kernel
theorem dX12_init_32 : decode cX12_init 32 = .ok (.iconst 5, 1) := by decide +kernel
theorem dX12_init_33 : decode cX12_init 33 = .ok (.lconst 0, 1) := by decide +kernel
theorem dX12_init_34 : decode cX12_init 34 = .ok (.lastore, 1) := by decide +kernel
theorem dX12_init_35 : decode cX12_init 35 = .ok (.dup, 1) := by decide +kernel
theorem dX12_init_36 : decode cX12_init 36 = .ok (.bipush 6, 2) := by decide +kernel
theorem dX12_init_38 : decode cX12_init 38 = .ok (.lconst 0, 1) := by decide +kernel
theorem dX12_init_39 : decode cX12_init 39 = .ok (.lastore, 1) := by decide +kernel
theorem dX12_init_40 : decode cX12_init 40 = .ok (.dup, 1) := by decide +kernel
theorem dX12_init_41 : decode cX12_init 41 = .ok (.bipush 7, 2) := by decide +kernel
theorem dX12_init_43 : decode cX12_init 43 = .ok (.lconst 0, 1) := by decide +kernel
theorem dX12_init_44 : decode cX12_init 44 = .ok (.lastore, 1) := by decide +kernel
theorem dX12_init_45 : decode cX12_init 45 = .ok (.dup, 1) := by decide +kernel
theorem dX12_init_46 : decode cX12_init 46 = .ok (.bipush 8, 2) := by decide +kernel
theorem dX12_init_48 : decode cX12_init 48 = .ok (.ldc2_w 9, 3) := by decide +kernel
theorem dX12_init_51 : decode cX12_init 51 = .ok (.lastore, 1) := by decide +kernel
theorem dX12_init_52 : decode cX12_init 52 = .ok (.dup, 1) := by decide +kernel
theorem dX12_init_53 : decode cX12_init 53 = .ok (.bipush 9, 2) := by decide +kernel
theorem dX12_init_55 : decode cX12_init 55 = .ok (.ldc2_w 11, 3) := by decide +kernel
theorem dX12_init_58 : decode cX12_init 58 = .ok (.lastore, 1) := by decide +kernel
theorem dX12_init_59 : decode cX12_init 59 = .ok (.dup, 1) := by decide +kernel
theorem dX12_init_60 : decode cX12_init 60 = .ok (.bipush 10, 2) := by decide +kernel
theorem dX12_init_62 : decode cX12_init 62 = .ok (.ldc2_w 13, 3) := by decide +kernel
theorem dX12_init_65 : decode cX12_init 65 = .ok (.lastore, 1) := by decide +kernel
theorem dX12_init_66 : decode cX12_init 66 = .ok (.dup, 1) := by decide +kernel
theorem dX12_init_67 : decode cX12_init 67 = .ok (.bipush 11, 2) := by decide +kernel
theorem dX12_init_69 : decode cX12_init 69 = .ok (.ldc2_w 15, 3) := by decide +kernel
theorem dX12_init_72 : decode cX12_init 72 = .ok (.lastore, 1) := by decide +kernel
theorem dX12_init_73 : decode cX12_init 73 = .ok (.dup, 1) := by decide +kernel
theorem dX12_init_74 : decode cX12_init 74 = .ok (.bipush 12, 2) := by decide +kernel
theorem dX12_init_76 : decode cX12_init 76 = .ok (.ldc2_w 17, 3) := by decide +kernel
theorem dX12_init_79 : decode cX12_init 79 = .ok (.lastore, 1) := by decide +kernel
theorem dX12_init_80 : decode cX12_init 80 = .ok (.dup, 1) := by decide +kernel
theorem dX12_init_81 : decode cX12_init 81 = .ok (.bipush 13, 2) := by decide +kernel
theorem dX12_init_83 : decode cX12_init 83 = .ok (.ldc2_w 19, 3) := by decide +kernel
theorem dX12_init_86 : decode cX12_init 86 = .ok (.lastore, 1) := by decide +kernel
theorem dX12_init_87 : decode cX12_init 87 = .ok (.dup, 1) := by decide +kernel
theorem dX12_init_88 : decode cX12_init 88 = .ok (.bipush 14, 2) := by decide +kernel
theorem dX12_init_90 : decode cX12_init 90 = .ok (.ldc2_w 21, 3) := by decide +kernel
theorem dX12_init_93 : decode cX12_init 93 = .ok (.lastore, 1) := by decide +kernel
theorem dX12_init_94 : decode cX12_init 94 = .ok (.dup, 1) := by decide +kernel
theorem dX12_init_95 : decode cX12_init 95 = .ok (.bipush 15, 2) := by decide +kernel
theorem dX12_init_97 : decode cX12_init 97 = .ok (.ldc2_w 23, 3) := by decide +kernel
theorem dX12_init_100 : decode cX12_init 100 = .ok (.lastore, 1) := by decide +kernel
theorem dX12_init_101 : decode cX12_init 101 = .ok (.dup, 1) := by decide +kernel
theorem dX12_init_102 : decode cX12_init 102 = .ok (.bipush 16, 2) := by decide +kernel
theorem dX12_init_104 : decode cX12_init 104 = .ok (.ldc2_w 25, 3) := by decide +kernel
theorem dX12_init_107 : decode cX12_init 107 = .ok (.lastore, 1) := by decide +kernel
theorem dX12_init_108 : decode cX12_init 108 = .ok (.dup, 1) := by decide +kernel
theorem dX12_init_109 : decode cX12_init 109 = .ok (.bipush 17, 2) := by decide +kernel
theorem dX12_init_111 : decode cX12_init 111 = .ok (.ldc2_w 27, 3) := by decide +kernel
theorem dX12_init_114 : decode cX12_init 114 = .ok (.lastore, 1) := by decide +kernel
theorem dX12_init_115 : decode cX12_init 115 = .ok (.dup, 1) := by decide +kernel
theorem dX12_init_116 : decode cX12_init 116 = .ok (.bipush 18, 2) := by decide +kernel
theorem dX12_init_118 : decode cX12_init 118 = .ok (.ldc2_w 29, 3) := by decide +kernel
theorem dX12_init_121 : decode cX12_init 121 = .ok (.lastore, 1) := by decide +kernel
theorem dX12_init_122 : decode cX12_init 122 = .ok (.dup, 1) := by decide +kernel
theorem dX12_init_123 : decode cX12_init 123 = .ok (.bipush 19, 2) := by decide +kernel
theorem dX12_init_125 : decode cX12_init 125 = .ok (.ldc2_w 31, 3) := by decide +kernel
theorem dX12_init_128 : decode cX12_init 128 = .ok (.lastore, 1) := by decide +kernel
theorem dX12_init_129 : decode cX12_init 129 = .ok (.dup, 1) := by decide +kernel
theorem dX12_init_130 : decode cX12_init 130 = .ok (.bipush 20, 2) := by decide +kernel
theorem dX12_init_132 : decode cX12_init 132 = .ok (.ldc2_w 33, 3) := by decide +kernel
theorem dX12_init_135 : decode cX12_init 135 = .ok (.lastore, 1) := by decide +kernel
theorem dX12_init_136 : decode cX12_init 136 = .ok (.dup, 1) := by decide +kernel
theorem dX12_init_137 : decode cX12_init 137 = .ok (.bipush 21, 2) := by decide +kernel
theorem dX12_init_139 : decode cX12_init 139 = .ok (.ldc2_w 35, 3) := by decide +kernel
theorem dX12_init_142 : decode cX12_init 142 = .ok (.lastore, 1) := by decide +kernel
theorem dX12_init_143 : decode cX12_init 143 = .ok (.dup, 1) := by decide +kernel
theorem dX12_init_144 : decode cX12_init 144 = .ok (.bipush 22, 2) := by decide +kernel
theorem dX12_init_146 : decode cX12_init 146 = .ok (.ldc2_w 37, 3) := by decide +kernel
theorem dX12_init_149 : decode cX12_init 149 = .ok (.lastore, 1) := by decide +kernel
theorem dX12_init_150 : decode cX12_init 150 = .ok (.dup, 1) := by decide +kernel
theorem dX12_init_151 : decode cX12_init 151 = .ok (.bipush 23, 2) := by decide +kernel
theorem dX12_init_153 : decode cX12_init 153 = .ok (.ldc2_w 39, 3) := by decide +kernel
theorem dX12_init_156 : decode cX12_init 156 = .ok (.lastore, 1) := by decide +kernel
theorem dX12_init_157 : decode cX12_init 157 = .ok (.dup, 1) := by decide +kernel
theorem dX12_init_158 : decode cX12_init 158 = .ok (.bipush 24, 2) := by decide +kernel
theorem dX12_init_160 : decode cX12_init 160 = .ok (.ldc2_w 41, 3) := by decide +kernel
theorem dX12_init_163 : decode cX12_init 163 = .ok (.lastore, 1) := by decide +kernel
theorem dX12_init_164 : decode cX12_init 164 = .ok (.dup, 1) := by decide +kernel
theorem dX12_init_165 : decode cX12_init 165 = .ok (.bipush 25, 2) := by decide +kernel
theorem dX12_init_167 : decode cX12_init 167 = .ok (.ldc2_w 43, 3) := by decide +kernel
theorem dX12_init_170 : decode cX12_init 170 = .ok (.lastore, 1) := by decide +kernel
theorem dX12_init_171 : decode cX12_init 171 = .ok (.dup, 1) := by decide +kernel
theorem dX12_init_172 : decode cX12_init 172 = .ok (.bipush 26, 2) := by decide +kernel
theorem dX12_init_174 : decode cX12_init 174 = .ok (.ldc2_w 45, 3) := by decide +kernel
theorem dX12_init_177 : decode cX12_init 177 = .ok (.lastore, 1) := by decide +kernel
theorem dX12_init_178 : decode cX12_init 178 = .ok (.dup, 1) := by decide +kernel
theorem dX12_init_179 : decode cX12_init 179 = .ok (.bipush 27, 2) := by decide +kernel
theorem dX12_init_181 : decode cX12_init 181 = .ok (.ldc2_w 47, 3) := by decide +kernel
theorem dX12_init_184 : decode cX12_init 184 = .ok (.lastore, 1) := by decide +kernel
theorem dX12_init_185 : decode cX12_init 185 = .ok (.dup, 1) := by decide +kernel
theorem dX12_init_186 : decode cX12_init 186 = .ok (.bipush 28, 2) := by decide +kernel
theorem dX12_init_188 : decode cX12_init 188 = .ok (.ldc2_w 49, 3) := by decide +kernel
theorem dX12_init_191 : decode cX12_init 191 = .ok (.lastore, 1) := by decide +kernel
theorem dX12_init_192 : decode cX12_init 192 = .ok (.dup, 1) := by decide +kernel
theorem dX12_init_193 : decode cX12_init 193 = .ok (.bipush 29, 2) := by decide +kernel
theorem dX12_init_195 : decode cX12_init 195 = .ok (.ldc2_w 51, 3) := by decide +kernel
theorem dX12_init_198 : decode cX12_init 198 = .ok (.lastore, 1) := by decide +kernel
theorem dX12_init_199 : decode cX12_init 199 = .ok (.dup, 1) := by decide +kernel
theorem dX12_init_200 : decode cX12_init 200 = .ok (.bipush 30, 2) := by decide +kernel
theorem dX12_init_202 : decode cX12_init 202 = .ok (.ldc2_w 53, 3) := by decide +kernel
theorem dX12_init_205 : decode cX12_init 205 = .ok (.lastore, 1) := by decide +kernel
theorem dX12_init_206 : decode cX12_init 206 = .ok (.dup, 1) := by decide +kernel
theorem dX12_init_207 : decode cX12_init 207 = .ok (.bipush 31, 2) := by decide +kernel
theorem dX12_init_209 : decode cX12_init 209 = .ok (.ldc2_w 55, 3) := by decide +kernel
theorem dX12_init_212 : decode cX12_init 212 = .ok (.lastore, 1) := by decide +kernel
theorem dX12_init_213 : decode cX12_init 213 = .ok (.dup, 1) := by decide +kernel
theorem dX12_init_214 : decode cX12_init 214 = .ok (.bipush 32, 2) := by decide +kernel
theorem dX12_init_216 : decode cX12_init 216 = .ok (.ldc2_w 57, 3) := by decide +kernel
theorem dX12_init_219 : decode cX12_init 219 = .ok (.lastore, 1) := by decide +kernel
theorem dX12_init_220 : decode cX12_init 220 = .ok (.dup, 1) := by decide +kernel
theorem dX12_init_221 : decode cX12_init 221 = .ok (.bipush 33, 2) := by decide +kernel
theorem dX12_init_223 : decode cX12_init 223 = .ok (.ldc2_w 59, 3) := by decide +kernel
theorem dX12_init_226 : decode cX12_init 226 = .ok (.lastore, 1) := by decide +kernel
theorem dX12_init_227 : decode cX12_init 227 = .ok (.dup, 1) := by decide +kernel
theorem dX12_init_228 : decode cX12_init 228 = .ok (.bipush 34, 2) := by decide +kernel
theorem dX12_init_230 : decode cX12_init 230 = .ok (.ldc2_w 61, 3) := by decide +kernel
theorem dX12_init_233 : decode cX12_init 233 = .ok (.lastore, 1) := by decide +kernel
theorem dX12_init_234 : decode cX12_init 234 = .ok (.dup, 1) := by decide +kernel
theorem dX12_init_235 : decode cX12_init 235 = .ok (.bipush 35, 2) := by decide +kernel
theorem dX12_init_237 : decode cX12_init 237 = .ok (.ldc2_w 63, 3) := by decide +kernel
theorem dX12_init_240 : decode cX12_init 240 = .ok (.lastore, 1) := by decide +kernel
theorem dX12_init_241 : decode cX12_init 241 = .ok (.dup, 1) := by decide +kernel
theorem dX12_init_242 : decode cX12_init 242 = .ok (.bipush 36, 2) := by decide +kernel
theorem dX12_init_244 : decode cX12_init 244 = .ok (.ldc2_w 65, 3) := by decide +kernel
theorem dX12_init_247 : decode cX12_init 247 = .ok (.lastore, 1) := by decide +kernel
theorem dX12_init_248 : decode cX12_init 248 = .ok (.dup, 1) := by decide +kernel
theorem dX12_init_249 : decode cX12_init 249 = .ok (.bipush 37, 2) := by decide +kernel
theorem dX12_init_251 : decode cX12_init 251 = .ok (.ldc2_w 67, 3) := by decide +kernel
theorem dX12_init_254 : decode cX12_init 254 = .ok (.lastore, 1) := by decide +kernel
theorem dX12_init_255 : decode cX12_init 255 = .ok (.dup, 1) := by decide +kernel
theorem dX12_init_256 : decode cX12_init 256 = .ok (.bipush 38, 2) := by decide +kernel
theorem dX12_init_258 : decode cX12_init 258 = .ok (.ldc2_w 69, 3) := by decide +kernel
theorem dX12_init_261 : decode cX12_init 261 = .ok (.lastore, 1) := by decide +kernel
theorem dX12_init_262 : decode cX12_init 262 = .ok (.dup, 1) := by decide +kernel
theorem dX12_init_263 : decode cX12_init 263 = .ok (.bipush 39, 2) := by decide +kernel
theorem dX12_init_265 : decode cX12_init 265 = .ok (.ldc2_w 71, 3) := by decide +kernel
theorem dX12_init_268 : decode cX12_init 268 = .ok (.lastore, 1) := by decide +kernel
theorem dX12_init_269 : decode cX12_init 269 = .ok (.putfield 73, 3) := by decide +kernel
theorem dX12_init_272 : decode cX12_init 272 = .ok (.aload_n 0, 1) := by decide +kernel
theorem dX12_init_273 : decode cX12_init 273 = .ok (.bipush 40, 2) := by decide +kernel
theorem dX12_init_275 : decode cX12_init 275 = .ok (.newarray .long, 2) := by decide +kernel
theorem dX12_init_277 : decode cX12_init 277 = .ok (.dup, 1) := by decide +kernel
theorem dX12_init_278 : decode cX12_init 278 = .ok (.iconst 0, 1) := by decide +kernel
theorem dX12_init_279 : decode cX12_init 279 = .ok (.ldc2_w 79, 3) := by decide +kernel
theorem dX12_init_282 : decode cX12_init 282 = .ok (.lastore, 1) := by decide +kernel
theorem dX12_init_283 : decode cX12_init 283 = .ok (.dup, 1) := by decide +kernel
theorem dX12_init_284 : decode cX12_init 284 = .ok (.iconst 1, 1) := by decide +kernel
theorem dX12_init_285 : decode cX12_init 285 = .ok (.ldc2_w 81, 3) := by decide +kernel
theorem dX12_init_288 : decode cX12_init 288 = .ok (.lastore, 1) := by decide +kernel
theorem dX12_init_289 : decode cX12_init 289 = .ok (.dup, 1) := by decide +kernel
theorem dX12_init_290 : decode cX12_init 290 = .ok (.iconst 2, 1) := by decide +kernel
theorem dX12_init_291 : decode cX12_init 291 = .ok (.ldc2_w 83, 3) := by decide +kernel
theorem dX12_init_294 : decode cX12_init 294 = .ok (.lastore, 1) := by decide +kernel
theorem dX12_init_295 : decode cX12_init 295 = .ok (.dup, 1) := by decide +kernel
theorem dX12_init_296 : decode cX12_init 296 = .ok (.iconst 3, 1) := by decide +kernel
theorem dX12_init_297 : decode cX12_init 297 = .ok (.ldc2_w 85, 3) := by decide +kernel
theorem dX12_init_300 : decode cX12_init 300 = .ok (.lastore, 1) := by decide +kernel
theorem dX12_init_301 : decode cX12_init 301 = .ok (.dup, 1) := by decide +kernel
theorem dX12_init_302 : decode cX12_init 302 = .ok (.iconst 4, 1) := by decide +kernel
theorem dX12_init_303 : decode cX12_init 303 = .ok (.ldc2_w 87, 3) := by decide +kernel
theorem dX12_init_306 : decode cX12_init 306 = .ok (.lastore, 1) := by decide +kernel
theorem dX12_init_307 : decode cX12_init 307 = .ok (.dup, 1) := by decide +kernel
theorem dX12_init_308 : decode cX12_init 308 = .ok (.iconst 5, 1) := by decide +kernel
theorem dX12_init_309 : decode cX12_init 309 = .ok (.ldc2_w 89, 3) := by decide +kernel
theorem dX12_init_312 : decode cX12_init 312 = .ok (.lastore, 1) := by decide +kernel
theorem dX12_init_313 : decode cX12_init 313 = .ok (.dup, 1) := by decide +kernel
theorem dX12_init_314 : decode cX12_init 314 = .ok (.bipush 6, 2) := by decide +kernel
theorem dX12_init_316 : decode cX12_init 316 = .ok (.ldc2_w 91, 3) := by decide +kernel
theorem dX12_init_319 : decode cX12_init 319 = .ok (.lastore, 1) := by decide +kernel
theorem dX12_init_320 : decode cX12_init 320 = .ok (.dup, 1) := by decide +kernel
theorem dX12_init_321 : decode cX12_init 321 = .ok (.bipush 7, 2) := by decide +kernel
theorem dX12_init_323 : decode cX12_init 323 = .ok (.ldc2_w 93, 3) := by decide +kernel
theorem dX12_init_326 : decode cX12_init 326 = .ok (.lastore, 1) := by decide +kernel
theorem dX12_init_327 : decode cX12_init 327 = .ok (.dup, 1) := by decide +kernel
theorem dX12_init_328 : decode cX12_init 328 = .ok (.bipush 8, 2) := by decide +kernel
theorem dX12_init_330 : decode cX12_init 330 = .ok (.ldc2_w 95, 3) := by decide +kernel
theorem dX12_init_333 : decode cX12_init 333 = .ok (.lastore, 1) := by decide +kernel
theorem dX12_init_334 : decode cX12_init 334 = .ok (.dup, 1) := by decide +kernel
theorem dX12_init_335 : decode cX12_init 335 = .ok (.bipush 9, 2) := by decide +kernel
theorem dX12_init_337 : decode cX12_init 337 = .ok (.ldc2_w 97, 3) := by decide +kernel
theorem dX12_init_340 : decode cX12_init 340 = .ok (.lastore, 1) := by decide +kernel
theorem dX12_init_341 : decode cX12_init 341 = .ok (.dup, 1) := by decide +kernel
theorem dX12_init_342 : decode cX12_init 342 = .ok (.bipush 10, 2) := by decide +kernel
theorem dX12_init_344 : decode cX12_init 344 = .ok (.ldc2_w 99, 3) := by decide +kernel
theorem dX12_init_347 : decode cX12_init 347 = .ok (.lastore, 1) := by decide +kernel
theorem dX12_init_348 : decode cX12_init 348 = .ok (.dup, 1) := by decide +kernel
theorem dX12_init_349 : decode cX12_init 349 = .ok (.bipush 11, 2) := by decide +kernel
theorem dX12_init_351 : decode cX12_init 351 = .ok (.ldc2_w 101, 3) := by decide +kernel
theorem dX12_init_354 : decode cX12_init 354 = .ok (.lastore, 1) := by decide +kernel
theorem dX12_init_355 : decode cX12_init 355 = .ok (.dup, 1) := by decide +kernel
theorem dX12_init_356 : decode cX12_init 356 = .ok (.bipush 12, 2) := by decide +kernel
theorem dX12_init_358 : decode cX12_init 358 = .ok (.ldc2_w 103, 3) := by decide +kernel
theorem dX12_init_361 : decode cX12_init 361 = .ok (.lastore, 1) := by decide +kernel
theorem dX12_init_362 : decode cX12_init 362 = .ok (.dup, 1) := by decide +kernel
theorem dX12_init_363 : decode cX12_init 363 = .ok (.bipush 13, 2) := by decide +kernel
theorem dX12_init_365 : decode cX12_init 365 = .ok (.ldc2_w 105, 3) := by decide +kernel
theorem dX12_init_368 : decode cX12_init 368 = .ok (.lastore, 1) := by decide +kernel
theorem dX12_init_369 : decode cX12_init 369 = .ok (.dup, 1) := by decide +kernel
theorem dX12_init_370 : decode cX12_init 370 = .ok (.bipush 14, 2) := by decide +kernel
theorem dX12_init_372 : decode cX12_init 372 = .ok (.ldc2_w 107, 3) := by decide +kernel
theorem dX12_init_375 : decode cX12_init 375 = .ok (.lastore, 1) := by decide +kernel
theorem dX12_init_376 : decode cX12_init 376 = .ok (.dup, 1) := by decide +kernel
theorem dX12_init_377 : decode cX12_init 377 = .ok (.bipush 15, 2) := by decide +kernel
theorem dX12_init_379 : decode cX12_init 379 = .ok (.ldc2_w 109, 3) := by decide +kernel
theorem dX12_init_382 : decode cX12_init 382 = .ok (.lastore, 1) := by decide +kernel
theorem dX12_init_383 : decode cX12_init 383 = .ok (.dup, 1) := by decide +kernel
theorem dX12_init_384 : decode cX12_init 384 = .ok (.bipush 16, 2) := by decide +kernel
theorem dX12_init_386 : decode cX12_init 386 = .ok (.ldc2_w 111, 3) := by decide +kernel
theorem dX12_init_389 : decode cX12_init 389 = .ok (.lastore, 1) := by decide +kernel
theorem dX12_init_390 : decode cX12_init 390 = .ok (.dup, 1) := by decide +kernel
theorem dX12_init_391 : decode cX12_init 391 = .ok (.bipush 17, 2) := by decide +kernel
theorem dX12_init_393 : decode cX12_init 393 = .ok (.ldc2_w 113, 3) := by decide +kernel
theorem dX12_init_396 : decode cX12_init 396 = .ok (.lastore, 1) := by decide +kernel
theorem dX12_init_397 : decode cX12_init 397 = .ok (.dup, 1) := by decide +kernel
theorem dX12_init_398 : decode cX12_init 398 = .ok (.bipush 18, 2) := by decide +kernel
theorem dX12_init_400 : decode cX12_init 400 = .ok (.ldc2_w 115, 3) := by decide +kernel
theorem dX12_init_403 : decode cX12_init 403 = .ok (.lastore, 1) := by decide +kernel
theorem dX12_init_404 : decode cX12_init 404 = .ok (.dup, 1) := by decide +kernel
theorem dX12_init_405 : decode cX12_init 405 = .ok (.bipush 19, 2) := by decide +kernel
theorem dX12_init_407 : decode cX12_init 407 = .ok (.ldc2_w 117, 3) := by decide +kernel
theorem dX12_init_410 : decode cX12_init 410 = .ok (.lastore, 1) := by decide +kernel
theorem dX12_init_411 : decode cX12_init 411 = .ok (.dup, 1) := by decide +kernel
theorem dX12_init_412 : decode cX12_init 412 = .ok (.bipush 20, 2) := by decide +kernel
theorem dX12_init_414 : decode cX12_init 414 = .ok (.ldc2_w 119, 3) := by decide +kernel
theorem dX12_init_417 : decode cX12_init 417 = .ok (.lastore, 1) := by decide +kernel
theorem dX12_init_418 : decode cX12_init 418 = .ok (.dup, 1) := by decide +kernel
theorem dX12_init_419 : decode cX12_init 419 = .ok (.bipush 21, 2) := by decide +kernel
theorem dX12_init_421 : decode cX12_init 421 = .ok (.ldc2_w 121, 3) := by decide +kernel
theorem dX12_init_424 : decode cX12_init 424 = .ok (.lastore, 1) := by decide +kernel
theorem dX12_init_425 : decode cX12_init 425 = .ok (.dup, 1) := by decide +kernel
theorem dX12_init_426 : decode cX12_init 426 = .ok (.bipush 22, 2) := by decide +kernel
theorem dX12_init_428 : decode cX12_init 428 = .ok (.ldc2_w 123, 3) := by decide +kernel
theorem dX12_init_431 : decode cX12_init 431 = .ok (.lastore, 1) := by decide +kernel
theorem dX12_init_432 : decode cX12_init 432 = .ok (.dup, 1) := by decide +kernel
theorem dX12_init_433 : decode cX12_init 433 = .ok (.bipush 23, 2) := by decide +kernel
theorem dX12_init_435 : decode cX12_init 435 = .ok (.ldc2_w 125, 3) := by decide +kernel
theorem dX12_init_438 : decode cX12_init 438 = .ok (.lastore, 1) := by decide +kernel
theorem dX12_init_439 : decode cX12_init 439 = .ok (.dup, 1) := by decide +kernel
theorem dX12_init_440 : decode cX12_init 440 = .ok (.bipush 24, 2) := by decide +kernel
theorem dX12_init_442 : decode cX12_init 442 = .ok (.ldc2_w 127, 3) := by decide +kernel
theorem dX12_init_445 : decode cX12_init 445 = .ok (.lastore, 1) := by decide +kernel
theorem dX12_init_446 : decode cX12_init 446 = .ok (.dup, 1) := by decide +kernel
theorem dX12_init_447 : decode cX12_init 447 = .ok (.bipush 25, 2) := by decide +kernel
theorem dX12_init_449 : decode cX12_init 449 = .ok (.ldc2_w 129, 3) := by decide +kernel
theorem dX12_init_452 : decode cX12_init 452 = .ok (.lastore, 1) := by decide +kernel
theorem dX12_init_453 : decode cX12_init 453 = .ok (.dup, 1) := by decide +kernel
theorem dX12_init_454 : decode cX12_init 454 = .ok (.bipush 26, 2) := by decide +kernel
theorem dX12_init_456 : decode cX12_init 456 = .ok (.ldc2_w 131, 3) := by decide +kernel
theorem dX12_init_459 : decode cX12_init 459 = .ok (.lastore, 1) := by decide +kernel
theorem dX12_init_460 : decode cX12_init 460 = .ok (.dup, 1) := by decide +kernel
theorem dX12_init_461 : decode cX12_init 461 = .ok (.bipush 27, 2) := by decide +kernel
theorem dX12_init_463 : decode cX12_init 463 = .ok (.ldc2_w 133, 3) := by decide +kernel
