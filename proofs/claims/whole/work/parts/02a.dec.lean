abbrev mX0_init : aM := (yX0_init, cX0_init, 1, none)
theorem dX0_init_0 : decode mX0_init.2.1 0 = .ok (.aload_n 0, 1) := by decide +kernel
theorem dX0_init_1 : decode mX0_init.2.1 1 = .ok (.invokespecial 3, 3) := by decide +kernel
theorem dX0_init_4 : decode mX0_init.2.1 4 = .ok (.aload_n 0, 1) := by decide +kernel
theorem dX0_init_5 : decode mX0_init.2.1 5 = .ok (.sipush 300, 3) := by decide +kernel
theorem dX0_init_8 : decode mX0_init.2.1 8 = .ok (.newarray .int, 2) := by decide +kernel
theorem dX0_init_10 : decode mX0_init.2.1 10 = .ok (.putfield 11, 3) := by decide +kernel
theorem dX0_init_13 : decode mX0_init.2.1 13 = .ok (.aload_n 0, 1) := by decide +kernel
theorem dX0_init_14 : decode mX0_init.2.1 14 = .ok (.iconst 0, 1) := by decide +kernel
theorem dX0_init_15 : decode mX0_init.2.1 15 = .ok (.putfield 17, 3) := by decide +kernel
theorem dX0_init_18 : decode mX0_init.2.1 18 = .ok (.aload_n 0, 1) := by decide +kernel
theorem dX0_init_19 : decode mX0_init.2.1 19 = .ok (.iconst 0, 1) := by decide +kernel
theorem dX0_init_20 : decode mX0_init.2.1 20 = .ok (.putfield 21, 3) := by decide +kernel
theorem dX0_init_23 : decode mX0_init.2.1 23 = .ok (.return_, 1) := by decide +kernel
abbrev mX0_forget : aM := (yX0_forget, cX0_forget, 1, none)
theorem dX0_forget_0 : decode mX0_forget.2.1 0 = .ok (.aload_n 0, 1) := by decide +kernel
theorem dX0_forget_1 : decode mX0_forget.2.1 1 = .ok (.iconst 0, 1) := by decide +kernel
theorem dX0_forget_2 : decode mX0_forget.2.1 2 = .ok (.putfield 17, 3) := by decide +kernel
theorem dX0_forget_5 : decode mX0_forget.2.1 5 = .ok (.return_, 1) := by decide +kernel
abbrev mX0_remember : aM := (yX0_remember, cX0_remember, 3, none)
theorem dX0_remember_0 : decode mX0_remember.2.1 0 = .ok (.aload_n 0, 1) := by decide +kernel
theorem dX0_remember_1 : decode mX0_remember.2.1 1 = .ok (.getfield 21, 3) := by decide +kernel
theorem dX0_remember_4 : decode mX0_remember.2.1 4 = .ok (.bipush 15, 2) := by decide +kernel
theorem dX0_remember_6 : decode mX0_remember.2.1 6 = .ok (.imul, 1) := by decide +kernel
theorem dX0_remember_7 : decode mX0_remember.2.1 7 = .ok (.istore_n 2, 1) := by decide +kernel
theorem dX0_remember_8 : decode mX0_remember.2.1 8 = .ok (.aload_n 0, 1) := by decide +kernel
theorem dX0_remember_9 : decode mX0_remember.2.1 9 = .ok (.getfield 11, 3) := by decide +kernel
theorem dX0_remember_12 : decode mX0_remember.2.1 12 = .ok (.iload_n 2, 1) := by decide +kernel
theorem dX0_remember_13 : decode mX0_remember.2.1 13 = .ok (.aload_n 1, 1) := by decide +kernel
theorem dX0_remember_14 : decode mX0_remember.2.1 14 = .ok (.getfield 24, 3) := by decide +kernel
theorem dX0_remember_17 : decode mX0_remember.2.1 17 = .ok (.iastore, 1) := by decide +kernel
theorem dX0_remember_18 : decode mX0_remember.2.1 18 = .ok (.aload_n 0, 1) := by decide +kernel
theorem dX0_remember_19 : decode mX0_remember.2.1 19 = .ok (.getfield 11, 3) := by decide +kernel
theorem dX0_remember_22 : decode mX0_remember.2.1 22 = .ok (.iload_n 2, 1) := by decide +kernel
theorem dX0_remember_23 : decode mX0_remember.2.1 23 = .ok (.iconst 1, 1) := by decide +kernel
theorem dX0_remember_24 : decode mX0_remember.2.1 24 = .ok (.iadd, 1) := by decide +kernel
theorem dX0_remember_25 : decode mX0_remember.2.1 25 = .ok (.aload_n 1, 1) := by decide +kernel
theorem dX0_remember_26 : decode mX0_remember.2.1 26 = .ok (.getfield 27, 3) := by decide +kernel
theorem dX0_remember_29 : decode mX0_remember.2.1 29 = .ok (.iastore, 1) := by decide +kernel
theorem dX0_remember_30 : decode mX0_remember.2.1 30 = .ok (.aload_n 0, 1) := by decide +kernel
theorem dX0_remember_31 : decode mX0_remember.2.1 31 = .ok (.getfield 11, 3) := by decide +kernel
theorem dX0_remember_34 : decode mX0_remember.2.1 34 = .ok (.iload_n 2, 1) := by decide +kernel
theorem dX0_remember_35 : decode mX0_remember.2.1 35 = .ok (.iconst 2, 1) := by decide +kernel
theorem dX0_remember_36 : decode mX0_remember.2.1 36 = .ok (.iadd, 1) := by decide +kernel
theorem dX0_remember_37 : decode mX0_remember.2.1 37 = .ok (.aload_n 1, 1) := by decide +kernel
theorem dX0_remember_38 : decode mX0_remember.2.1 38 = .ok (.getfield 30, 3) := by decide +kernel
theorem dX0_remember_41 : decode mX0_remember.2.1 41 = .ok (.iastore, 1) := by decide +kernel
theorem dX0_remember_42 : decode mX0_remember.2.1 42 = .ok (.aload_n 0, 1) := by decide +kernel
theorem dX0_remember_43 : decode mX0_remember.2.1 43 = .ok (.getfield 11, 3) := by decide +kernel
theorem dX0_remember_46 : decode mX0_remember.2.1 46 = .ok (.iload_n 2, 1) := by decide +kernel
theorem dX0_remember_47 : decode mX0_remember.2.1 47 = .ok (.iconst 3, 1) := by decide +kernel
theorem dX0_remember_48 : decode mX0_remember.2.1 48 = .ok (.iadd, 1) := by decide +kernel
theorem dX0_remember_49 : decode mX0_remember.2.1 49 = .ok (.aload_n 1, 1) := by decide +kernel
theorem dX0_remember_50 : decode mX0_remember.2.1 50 = .ok (.getfield 33, 3) := by decide +kernel
theorem dX0_remember_53 : decode mX0_remember.2.1 53 = .ok (.iastore, 1) := by decide +kernel
theorem dX0_remember_54 : decode mX0_remember.2.1 54 = .ok (.aload_n 1, 1) := by decide +kernel
theorem dX0_remember_55 : decode mX0_remember.2.1 55 = .ok (.getfield 36, 3) := by decide +kernel
theorem dX0_remember_58 : decode mX0_remember.2.1 58 = .ok (.iconst 0, 1) := by decide +kernel
theorem dX0_remember_59 : decode mX0_remember.2.1 59 = .ok (.aload_n 0, 1) := by decide +kernel
theorem dX0_remember_60 : decode mX0_remember.2.1 60 = .ok (.getfield 11, 3) := by decide +kernel
theorem dX0_remember_63 : decode mX0_remember.2.1 63 = .ok (.iload_n 2, 1) := by decide +kernel
theorem dX0_remember_64 : decode mX0_remember.2.1 64 = .ok (.iconst 4, 1) := by decide +kernel
theorem dX0_remember_65 : decode mX0_remember.2.1 65 = .ok (.iadd, 1) := by decide +kernel
theorem dX0_remember_66 : decode mX0_remember.2.1 66 = .ok (.iconst 5, 1) := by decide +kernel
theorem dX0_remember_67 : decode mX0_remember.2.1 67 = .ok (.invokestatic 39, 3) := by decide +kernel
theorem dX0_remember_70 : decode mX0_remember.2.1 70 = .ok (.aload_n 1, 1) := by decide +kernel
theorem dX0_remember_71 : decode mX0_remember.2.1 71 = .ok (.getfield 45, 3) := by decide +kernel
theorem dX0_remember_74 : decode mX0_remember.2.1 74 = .ok (.iconst 0, 1) := by decide +kernel
theorem dX0_remember_75 : decode mX0_remember.2.1 75 = .ok (.aload_n 0, 1) := by decide +kernel
theorem dX0_remember_76 : decode mX0_remember.2.1 76 = .ok (.getfield 11, 3) := by decide +kernel
theorem dX0_remember_79 : decode mX0_remember.2.1 79 = .ok (.iload_n 2, 1) := by decide +kernel
theorem dX0_remember_80 : decode mX0_remember.2.1 80 = .ok (.iconst 4, 1) := by decide +kernel
theorem dX0_remember_81 : decode mX0_remember.2.1 81 = .ok (.iadd, 1) := by decide +kernel
theorem dX0_remember_82 : decode mX0_remember.2.1 82 = .ok (.iconst 5, 1) := by decide +kernel
theorem dX0_remember_83 : decode mX0_remember.2.1 83 = .ok (.iadd, 1) := by decide +kernel
theorem dX0_remember_84 : decode mX0_remember.2.1 84 = .ok (.bipush 6, 2) := by decide +kernel
theorem dX0_remember_86 : decode mX0_remember.2.1 86 = .ok (.invokestatic 39, 3) := by decide +kernel
theorem dX0_remember_89 : decode mX0_remember.2.1 89 = .ok (.aload_n 0, 1) := by decide +kernel
theorem dX0_remember_90 : decode mX0_remember.2.1 90 = .ok (.aload_n 0, 1) := by decide +kernel
theorem dX0_remember_91 : decode mX0_remember.2.1 91 = .ok (.getfield 21, 3) := by decide +kernel
theorem dX0_remember_94 : decode mX0_remember.2.1 94 = .ok (.iconst 1, 1) := by decide +kernel
theorem dX0_remember_95 : decode mX0_remember.2.1 95 = .ok (.iadd, 1) := by decide +kernel
theorem dX0_remember_96 : decode mX0_remember.2.1 96 = .ok (.bipush 20, 2) := by decide +kernel
theorem dX0_remember_98 : decode mX0_remember.2.1 98 = .ok (.irem, 1) := by decide +kernel
theorem dX0_remember_99 : decode mX0_remember.2.1 99 = .ok (.putfield 21, 3) := by decide +kernel
theorem dX0_remember_102 : decode mX0_remember.2.1 102 = .ok (.aload_n 0, 1) := by decide +kernel
theorem dX0_remember_103 : decode mX0_remember.2.1 103 = .ok (.bipush 20, 2) := by decide +kernel
theorem dX0_remember_105 : decode mX0_remember.2.1 105 = .ok (.aload_n 0, 1) := by decide +kernel
theorem dX0_remember_106 : decode mX0_remember.2.1 106 = .ok (.getfield 17, 3) := by decide +kernel
theorem dX0_remember_109 : decode mX0_remember.2.1 109 = .ok (.iconst 1, 1) := by decide +kernel
theorem dX0_remember_110 : decode mX0_remember.2.1 110 = .ok (.iadd, 1) := by decide +kernel
theorem dX0_remember_111 : decode mX0_remember.2.1 111 = .ok (.invokestatic 48, 3) := by decide +kernel
theorem dX0_remember_114 : decode mX0_remember.2.1 114 = .ok (.putfield 17, 3) := by decide +kernel
theorem dX0_remember_117 : decode mX0_remember.2.1 117 = .ok (.return_, 1) := by decide +kernel
abbrev mX0_back : aM := (yX0_back, cX0_back, 3, (some .boolean))
theorem dX0_back_0 : decode mX0_back.2.1 0 = .ok (.aload_n 0, 1) := by decide +kernel
theorem dX0_back_1 : decode mX0_back.2.1 1 = .ok (.getfield 17, 3) := by decide +kernel
theorem dX0_back_4 : decode mX0_back.2.1 4 = .ok (.ifCond .ne 5, 3) := by decide +kernel
theorem dX0_back_7 : decode mX0_back.2.1 7 = .ok (.iconst 0, 1) := by decide +kernel
theorem dX0_back_8 : decode mX0_back.2.1 8 = .ok (.ireturn, 1) := by decide +kernel
theorem dX0_back_9 : decode mX0_back.2.1 9 = .ok (.aload_n 0, 1) := by decide +kernel
theorem dX0_back_10 : decode mX0_back.2.1 10 = .ok (.dup, 1) := by decide +kernel
theorem dX0_back_11 : decode mX0_back.2.1 11 = .ok (.getfield 17, 3) := by decide +kernel
theorem dX0_back_14 : decode mX0_back.2.1 14 = .ok (.iconst 1, 1) := by decide +kernel
theorem dX0_back_15 : decode mX0_back.2.1 15 = .ok (.isub, 1) := by decide +kernel
theorem dX0_back_16 : decode mX0_back.2.1 16 = .ok (.putfield 17, 3) := by decide +kernel
theorem dX0_back_19 : decode mX0_back.2.1 19 = .ok (.aload_n 0, 1) := by decide +kernel
theorem dX0_back_20 : decode mX0_back.2.1 20 = .ok (.aload_n 0, 1) := by decide +kernel
theorem dX0_back_21 : decode mX0_back.2.1 21 = .ok (.getfield 21, 3) := by decide +kernel
theorem dX0_back_24 : decode mX0_back.2.1 24 = .ok (.bipush 20, 2) := by decide +kernel
theorem dX0_back_26 : decode mX0_back.2.1 26 = .ok (.iadd, 1) := by decide +kernel
theorem dX0_back_27 : decode mX0_back.2.1 27 = .ok (.iconst 1, 1) := by decide +kernel
theorem dX0_back_28 : decode mX0_back.2.1 28 = .ok (.isub, 1) := by decide +kernel
theorem dX0_back_29 : decode mX0_back.2.1 29 = .ok (.bipush 20, 2) := by decide +kernel
theorem dX0_back_31 : decode mX0_back.2.1 31 = .ok (.irem, 1) := by decide +kernel
theorem dX0_back_32 : decode mX0_back.2.1 32 = .ok (.putfield 21, 3) := by decide +kernel
theorem dX0_back_35 : decode mX0_back.2.1 35 = .ok (.aload_n 0, 1) := by decide +kernel
theorem dX0_back_36 : decode mX0_back.2.1 36 = .ok (.getfield 21, 3) := by decide +kernel
theorem dX0_back_39 : decode mX0_back.2.1 39 = .ok (.bipush 15, 2) := by decide +kernel
theorem dX0_back_41 : decode mX0_back.2.1 41 = .ok (.imul, 1) := by decide +kernel
theorem dX0_back_42 : decode mX0_back.2.1 42 = .ok (.istore_n 2, 1) := by decide +kernel
theorem dX0_back_43 : decode mX0_back.2.1 43 = .ok (.aload_n 1, 1) := by decide +kernel
theorem dX0_back_44 : decode mX0_back.2.1 44 = .ok (.aload_n 0, 1) := by decide +kernel
theorem dX0_back_45 : decode mX0_back.2.1 45 = .ok (.getfield 11, 3) := by decide +kernel
theorem dX0_back_48 : decode mX0_back.2.1 48 = .ok (.iload_n 2, 1) := by decide +kernel
theorem dX0_back_49 : decode mX0_back.2.1 49 = .ok (.iaload, 1) := by decide +kernel
theorem dX0_back_50 : decode mX0_back.2.1 50 = .ok (.putfield 24, 3) := by decide +kernel
theorem dX0_back_53 : decode mX0_back.2.1 53 = .ok (.aload_n 1, 1) := by decide +kernel
theorem dX0_back_54 : decode mX0_back.2.1 54 = .ok (.aload_n 0, 1) := by decide +kernel
theorem dX0_back_55 : decode mX0_back.2.1 55 = .ok (.getfield 11, 3) := by decide +kernel
theorem dX0_back_58 : decode mX0_back.2.1 58 = .ok (.iload_n 2, 1) := by decide +kernel
theorem dX0_back_59 : decode mX0_back.2.1 59 = .ok (.iconst 1, 1) := by decide +kernel
theorem dX0_back_60 : decode mX0_back.2.1 60 = .ok (.iadd, 1) := by decide +kernel
theorem dX0_back_61 : decode mX0_back.2.1 61 = .ok (.iaload, 1) := by decide +kernel
theorem dX0_back_62 : decode mX0_back.2.1 62 = .ok (.putfield 27, 3) := by decide +kernel
theorem dX0_back_65 : decode mX0_back.2.1 65 = .ok (.aload_n 1, 1) := by decide +kernel
theorem dX0_back_66 : decode mX0_back.2.1 66 = .ok (.aload_n 0, 1) := by decide +kernel
theorem dX0_back_67 : decode mX0_back.2.1 67 = .ok (.getfield 11, 3) := by decide +kernel
theorem dX0_back_70 : decode mX0_back.2.1 70 = .ok (.iload_n 2, 1) := by decide +kernel
theorem dX0_back_71 : decode mX0_back.2.1 71 = .ok (.iconst 2, 1) := by decide +kernel
theorem dX0_back_72 : decode mX0_back.2.1 72 = .ok (.iadd, 1) := by decide +kernel
theorem dX0_back_73 : decode mX0_back.2.1 73 = .ok (.iaload, 1) := by decide +kernel
theorem dX0_back_74 : decode mX0_back.2.1 74 = .ok (.putfield 30, 3) := by decide +kernel
theorem dX0_back_77 : decode mX0_back.2.1 77 = .ok (.aload_n 1, 1) := by decide +kernel
theorem dX0_back_78 : decode mX0_back.2.1 78 = .ok (.aload_n 0, 1) := by decide +kernel
theorem dX0_back_79 : decode mX0_back.2.1 79 = .ok (.getfield 11, 3) := by decide +kernel
theorem dX0_back_82 : decode mX0_back.2.1 82 = .ok (.iload_n 2, 1) := by decide +kernel
theorem dX0_back_83 : decode mX0_back.2.1 83 = .ok (.iconst 3, 1) := by decide +kernel
theorem dX0_back_84 : decode mX0_back.2.1 84 = .ok (.iadd, 1) := by decide +kernel
theorem dX0_back_85 : decode mX0_back.2.1 85 = .ok (.iaload, 1) := by decide +kernel
theorem dX0_back_86 : decode mX0_back.2.1 86 = .ok (.putfield 33, 3) := by decide +kernel
theorem dX0_back_89 : decode mX0_back.2.1 89 = .ok (.aload_n 0, 1) := by decide +kernel
theorem dX0_back_90 : decode mX0_back.2.1 90 = .ok (.getfield 11, 3) := by decide +kernel
theorem dX0_back_93 : decode mX0_back.2.1 93 = .ok (.iload_n 2, 1) := by decide +kernel
theorem dX0_back_94 : decode mX0_back.2.1 94 = .ok (.iconst 4, 1) := by decide +kernel
theorem dX0_back_95 : decode mX0_back.2.1 95 = .ok (.iadd, 1) := by decide +kernel
theorem dX0_back_96 : decode mX0_back.2.1 96 = .ok (.aload_n 1, 1) := by decide +kernel
theorem dX0_back_97 : decode mX0_back.2.1 97 = .ok (.getfield 36, 3) := by decide +kernel
theorem dX0_back_100 : decode mX0_back.2.1 100 = .ok (.iconst 0, 1) := by decide +kernel
theorem dX0_back_101 : decode mX0_back.2.1 101 = .ok (.iconst 5, 1) := by decide +kernel
theorem dX0_back_102 : decode mX0_back.2.1 102 = .ok (.invokestatic 39, 3) := by decide +kernel
theorem dX0_back_105 : decode mX0_back.2.1 105 = .ok (.aload_n 0, 1) := by decide +kernel
theorem dX0_back_106 : decode mX0_back.2.1 106 = .ok (.getfield 11, 3) := by decide +kernel
theorem dX0_back_109 : decode mX0_back.2.1 109 = .ok (.iload_n 2, 1) := by decide +kernel
theorem dX0_back_110 : decode mX0_back.2.1 110 = .ok (.iconst 4, 1) := by decide +kernel
theorem dX0_back_111 : decode mX0_back.2.1 111 = .ok (.iadd, 1) := by decide +kernel
theorem dX0_back_112 : decode mX0_back.2.1 112 = .ok (.iconst 5, 1) := by decide +kernel
theorem dX0_back_113 : decode mX0_back.2.1 113 = .ok (.iadd, 1) := by decide +kernel
theorem dX0_back_114 : decode mX0_back.2.1 114 = .ok (.aload_n 1, 1) := by decide +kernel
theorem dX0_back_115 : decode mX0_back.2.1 115 = .ok (.getfield 45, 3) := by decide +kernel
theorem dX0_back_118 : decode mX0_back.2.1 118 = .ok (.iconst 0, 1) := by decide +kernel
theorem dX0_back_119 : decode mX0_back.2.1 119 = .ok (.bipush 6, 2) := by decide +kernel
theorem dX0_back_121 : decode mX0_back.2.1 121 = .ok (.invokestatic 39, 3) := by decide +kernel
theorem dX0_back_124 : decode mX0_back.2.1 124 = .ok (.iconst 1, 1) := by decide +kernel
theorem dX0_back_125 : decode mX0_back.2.1 125 = .ok (.ireturn, 1) := by decide +kernel
abbrev mX1_init : aM := (yX1_init, cX1_init, 3, none)
theorem dX1_init_0 : decode mX1_init.2.1 0 = .ok (.aload_n 0, 1) := by decide +kernel
theorem dX1_init_1 : decode mX1_init.2.1 1 = .ok (.invokespecial 3, 3) := by decide +kernel
theorem dX1_init_4 : decode mX1_init.2.1 4 = .ok (.aload_n 0, 1) := by decide +kernel
theorem dX1_init_5 : decode mX1_init.2.1 5 = .ok (.iconst (-1), 1) := by decide +kernel
theorem dX1_init_6 : decode mX1_init.2.1 6 = .ok (.putfield 9, 3) := by decide +kernel
theorem dX1_init_9 : decode mX1_init.2.1 9 = .ok (.aload_n 0, 1) := by decide +kernel
theorem dX1_init_10 : decode mX1_init.2.1 10 = .ok (.iconst 0, 1) := by decide +kernel
theorem dX1_init_11 : decode mX1_init.2.1 11 = .ok (.putfield 15, 3) := by decide +kernel
theorem dX1_init_14 : decode mX1_init.2.1 14 = .ok (.aload_n 0, 1) := by decide +kernel
theorem dX1_init_15 : decode mX1_init.2.1 15 = .ok (.iconst 0, 1) := by decide +kernel
theorem dX1_init_16 : decode mX1_init.2.1 16 = .ok (.putfield 18, 3) := by decide +kernel
theorem dX1_init_19 : decode mX1_init.2.1 19 = .ok (.aload_n 0, 1) := by decide +kernel
theorem dX1_init_20 : decode mX1_init.2.1 20 = .ok (.bipush 6, 2) := by decide +kernel
theorem dX1_init_22 : decode mX1_init.2.1 22 = .ok (.newarray .int, 2) := by decide +kernel
theorem dX1_init_24 : decode mX1_init.2.1 24 = .ok (.putfield 21, 3) := by decide +kernel
theorem dX1_init_27 : decode mX1_init.2.1 27 = .ok (.aload_n 0, 1) := by decide +kernel
theorem dX1_init_28 : decode mX1_init.2.1 28 = .ok (.bipush 6, 2) := by decide +kernel
theorem dX1_init_30 : decode mX1_init.2.1 30 = .ok (.newarray .int, 2) := by decide +kernel
theorem dX1_init_32 : decode mX1_init.2.1 32 = .ok (.putfield 25, 3) := by decide +kernel
theorem dX1_init_35 : decode mX1_init.2.1 35 = .ok (.aload_n 0, 1) := by decide +kernel
theorem dX1_init_36 : decode mX1_init.2.1 36 = .ok (.sipush 600, 3) := by decide +kernel
theorem dX1_init_39 : decode mX1_init.2.1 39 = .ok (.newarray .int, 2) := by decide +kernel
theorem dX1_init_41 : decode mX1_init.2.1 41 = .ok (.putfield 28, 3) := by decide +kernel
theorem dX1_init_44 : decode mX1_init.2.1 44 = .ok (.aload_n 0, 1) := by decide +kernel
theorem dX1_init_45 : decode mX1_init.2.1 45 = .ok (.aload_n 1, 1) := by decide +kernel
theorem dX1_init_46 : decode mX1_init.2.1 46 = .ok (.putfield 31, 3) := by decide +kernel
theorem dX1_init_49 : decode mX1_init.2.1 49 = .ok (.aload_n 0, 1) := by decide +kernel
theorem dX1_init_50 : decode mX1_init.2.1 50 = .ok (.aload_n 2, 1) := by decide +kernel
theorem dX1_init_51 : decode mX1_init.2.1 51 = .ok (.putfield 35, 3) := by decide +kernel
theorem dX1_init_54 : decode mX1_init.2.1 54 = .ok (.return_, 1) := by decide +kernel
abbrev mX1_solve : aM := (yX1_solve, cX1_solve, 3, none)
theorem dX1_solve_0 : decode mX1_solve.2.1 0 = .ok (.aload_n 0, 1) := by decide +kernel
theorem dX1_solve_1 : decode mX1_solve.2.1 1 = .ok (.iload_n 1, 1) := by decide +kernel
theorem dX1_solve_2 : decode mX1_solve.2.1 2 = .ok (.putfield 9, 3) := by decide +kernel
theorem dX1_solve_5 : decode mX1_solve.2.1 5 = .ok (.aload_n 0, 1) := by decide +kernel
theorem dX1_solve_6 : decode mX1_solve.2.1 6 = .ok (.iconst 0, 1) := by decide +kernel
theorem dX1_solve_7 : decode mX1_solve.2.1 7 = .ok (.putfield 15, 3) := by decide +kernel
theorem dX1_solve_10 : decode mX1_solve.2.1 10 = .ok (.aload_n 0, 1) := by decide +kernel
theorem dX1_solve_11 : decode mX1_solve.2.1 11 = .ok (.iconst 0, 1) := by decide +kernel
theorem dX1_solve_12 : decode mX1_solve.2.1 12 = .ok (.putfield 18, 3) := by decide +kernel
theorem dX1_solve_15 : decode mX1_solve.2.1 15 = .ok (.iconst 0, 1) := by decide +kernel
theorem dX1_solve_16 : decode mX1_solve.2.1 16 = .ok (.istore_n 2, 1) := by decide +kernel
theorem dX1_solve_17 : decode mX1_solve.2.1 17 = .ok (.iload_n 2, 1) := by decide +kernel
theorem dX1_solve_18 : decode mX1_solve.2.1 18 = .ok (.aload_n 0, 1) := by decide +kernel
theorem dX1_solve_19 : decode mX1_solve.2.1 19 = .ok (.getfield 28, 3) := by decide +kernel
theorem dX1_solve_22 : decode mX1_solve.2.1 22 = .ok (.arraylength, 1) := by decide +kernel
theorem dX1_solve_23 : decode mX1_solve.2.1 23 = .ok (.if_icmp .ge 16, 3) := by decide +kernel
theorem dX1_solve_26 : decode mX1_solve.2.1 26 = .ok (.aload_n 0, 1) := by decide +kernel
theorem dX1_solve_27 : decode mX1_solve.2.1 27 = .ok (.getfield 28, 3) := by decide +kernel
theorem dX1_solve_30 : decode mX1_solve.2.1 30 = .ok (.iload_n 2, 1) := by decide +kernel
theorem dX1_solve_31 : decode mX1_solve.2.1 31 = .ok (.iconst (-1), 1) := by decide +kernel
theorem dX1_solve_32 : decode mX1_solve.2.1 32 = .ok (.iastore, 1) := by decide +kernel
theorem dX1_solve_33 : decode mX1_solve.2.1 33 = .ok (.iinc 2 1, 3) := by decide +kernel
theorem dX1_solve_36 : decode mX1_solve.2.1 36 = .ok (.goto (-19), 3) := by decide +kernel
theorem dX1_solve_39 : decode mX1_solve.2.1 39 = .ok (.aload_n 0, 1) := by decide +kernel
theorem dX1_solve_40 : decode mX1_solve.2.1 40 = .ok (.iconst 0, 1) := by decide +kernel
theorem dX1_solve_41 : decode mX1_solve.2.1 41 = .ok (.iconst 0, 1) := by decide +kernel
theorem dX1_solve_42 : decode mX1_solve.2.1 42 = .ok (.aload_n 0, 1) := by decide +kernel
theorem dX1_solve_43 : decode mX1_solve.2.1 43 = .ok (.getfield 35, 3) := by decide +kernel
theorem dX1_solve_46 : decode mX1_solve.2.1 46 = .ok (.getfield 39, 3) := by decide +kernel
theorem dX1_solve_49 : decode mX1_solve.2.1 49 = .ok (.iload_n 1, 1) := by decide +kernel
theorem dX1_solve_50 : decode mX1_solve.2.1 50 = .ok (.iaload, 1) := by decide +kernel
theorem dX1_solve_51 : decode mX1_solve.2.1 51 = .ok (.iconst 0, 1) := by decide +kernel
theorem dX1_solve_52 : decode mX1_solve.2.1 52 = .ok (.invokevirtual 44, 3) := by decide +kernel
theorem dX1_solve_55 : decode mX1_solve.2.1 55 = .ok (.return_, 1) := by decide +kernel
abbrev mX1_goOn : aM := (yX1_goOn, cX1_goOn, 7, none)
theorem dX1_goOn_0 : decode mX1_goOn.2.1 0 = .ok (.iload_n 1, 1) := by decide +kernel
theorem dX1_goOn_1 : decode mX1_goOn.2.1 1 = .ok (.aload_n 0, 1) := by decide +kernel
theorem dX1_goOn_2 : decode mX1_goOn.2.1 2 = .ok (.getfield 15, 3) := by decide +kernel
theorem dX1_goOn_5 : decode mX1_goOn.2.1 5 = .ok (.if_icmp .gt 20, 3) := by decide +kernel
theorem dX1_goOn_8 : decode mX1_goOn.2.1 8 = .ok (.iload_n 1, 1) := by decide +kernel
theorem dX1_goOn_9 : decode mX1_goOn.2.1 9 = .ok (.aload_n 0, 1) := by decide +kernel
theorem dX1_goOn_10 : decode mX1_goOn.2.1 10 = .ok (.getfield 15, 3) := by decide +kernel
theorem dX1_goOn_13 : decode mX1_goOn.2.1 13 = .ok (.if_icmp .ne 38, 3) := by decide +kernel
theorem dX1_goOn_16 : decode mX1_goOn.2.1 16 = .ok (.iload 4, 2) := by decide +kernel
theorem dX1_goOn_18 : decode mX1_goOn.2.1 18 = .ok (.aload_n 0, 1) := by decide +kernel
theorem dX1_goOn_19 : decode mX1_goOn.2.1 19 = .ok (.getfield 18, 3) := by decide +kernel
theorem dX1_goOn_22 : decode mX1_goOn.2.1 22 = .ok (.if_icmp .ge 29, 3) := by decide +kernel
theorem dX1_goOn_25 : decode mX1_goOn.2.1 25 = .ok (.aload_n 0, 1) := by decide +kernel
theorem dX1_goOn_26 : decode mX1_goOn.2.1 26 = .ok (.iload_n 1, 1) := by decide +kernel
theorem dX1_goOn_27 : decode mX1_goOn.2.1 27 = .ok (.putfield 15, 3) := by decide +kernel
theorem dX1_goOn_30 : decode mX1_goOn.2.1 30 = .ok (.aload_n 0, 1) := by decide +kernel
theorem dX1_goOn_31 : decode mX1_goOn.2.1 31 = .ok (.iload 4, 2) := by decide +kernel
theorem dX1_goOn_33 : decode mX1_goOn.2.1 33 = .ok (.putfield 18, 3) := by decide +kernel
theorem dX1_goOn_36 : decode mX1_goOn.2.1 36 = .ok (.aload_n 0, 1) := by decide +kernel
theorem dX1_goOn_37 : decode mX1_goOn.2.1 37 = .ok (.getfield 25, 3) := by decide +kernel
theorem dX1_goOn_40 : decode mX1_goOn.2.1 40 = .ok (.iconst 0, 1) := by decide +kernel
theorem dX1_goOn_41 : decode mX1_goOn.2.1 41 = .ok (.aload_n 0, 1) := by decide +kernel
theorem dX1_goOn_42 : decode mX1_goOn.2.1 42 = .ok (.getfield 21, 3) := by decide +kernel
theorem dX1_goOn_45 : decode mX1_goOn.2.1 45 = .ok (.iconst 0, 1) := by decide +kernel
theorem dX1_goOn_46 : decode mX1_goOn.2.1 46 = .ok (.bipush 6, 2) := by decide +kernel
theorem dX1_goOn_48 : decode mX1_goOn.2.1 48 = .ok (.invokestatic 48, 3) := by decide +kernel
theorem dX1_goOn_51 : decode mX1_goOn.2.1 51 = .ok (.iconst 0, 1) := by decide +kernel
theorem dX1_goOn_52 : decode mX1_goOn.2.1 52 = .ok (.istore 5, 2) := by decide +kernel
theorem dX1_goOn_54 : decode mX1_goOn.2.1 54 = .ok (.iload 5, 2) := by decide +kernel
theorem dX1_goOn_56 : decode mX1_goOn.2.1 56 = .ok (.bipush 6, 2) := by decide +kernel
theorem dX1_goOn_58 : decode mX1_goOn.2.1 58 = .ok (.if_icmp .ge 85, 3) := by decide +kernel
theorem dX1_goOn_61 : decode mX1_goOn.2.1 61 = .ok (.iload_n 1, 1) := by decide +kernel
theorem dX1_goOn_62 : decode mX1_goOn.2.1 62 = .ok (.bipush 6, 2) := by decide +kernel
theorem dX1_goOn_64 : decode mX1_goOn.2.1 64 = .ok (.if_icmp .ge 79, 3) := by decide +kernel
theorem dX1_goOn_67 : decode mX1_goOn.2.1 67 = .ok (.iload_n 2, 1) := by decide +kernel
theorem dX1_goOn_68 : decode mX1_goOn.2.1 68 = .ok (.iload 5, 2) := by decide +kernel
theorem dX1_goOn_70 : decode mX1_goOn.2.1 70 = .ok (.ishr, 1) := by decide +kernel
theorem dX1_goOn_71 : decode mX1_goOn.2.1 71 = .ok (.iconst 1, 1) := by decide +kernel
theorem dX1_goOn_72 : decode mX1_goOn.2.1 72 = .ok (.iand, 1) := by decide +kernel
theorem dX1_goOn_73 : decode mX1_goOn.2.1 73 = .ok (.ifCond .ne 64, 3) := by decide +kernel
theorem dX1_goOn_76 : decode mX1_goOn.2.1 76 = .ok (.aload_n 0, 1) := by decide +kernel
theorem dX1_goOn_77 : decode mX1_goOn.2.1 77 = .ok (.getfield 35, 3) := by decide +kernel
theorem dX1_goOn_80 : decode mX1_goOn.2.1 80 = .ok (.getfield 54, 3) := by decide +kernel
theorem dX1_goOn_83 : decode mX1_goOn.2.1 83 = .ok (.iload 5, 2) := by decide +kernel
theorem dX1_goOn_85 : decode mX1_goOn.2.1 85 = .ok (.iaload, 1) := by decide +kernel
theorem dX1_goOn_86 : decode mX1_goOn.2.1 86 = .ok (.ifCond .le 51, 3) := by decide +kernel
theorem dX1_goOn_89 : decode mX1_goOn.2.1 89 = .ok (.aload_n 0, 1) := by decide +kernel
theorem dX1_goOn_90 : decode mX1_goOn.2.1 90 = .ok (.iload 5, 2) := by decide +kernel
theorem dX1_goOn_92 : decode mX1_goOn.2.1 92 = .ok (.iload_n 3, 1) := by decide +kernel
theorem dX1_goOn_93 : decode mX1_goOn.2.1 93 = .ok (.invokevirtual 57, 3) := by decide +kernel
theorem dX1_goOn_96 : decode mX1_goOn.2.1 96 = .ok (.istore 6, 2) := by decide +kernel
theorem dX1_goOn_98 : decode mX1_goOn.2.1 98 = .ok (.iload 6, 2) := by decide +kernel
theorem dX1_goOn_100 : decode mX1_goOn.2.1 100 = .ok (.ifCond .le 37, 3) := by decide +kernel
theorem dX1_goOn_103 : decode mX1_goOn.2.1 103 = .ok (.aload_n 0, 1) := by decide +kernel
theorem dX1_goOn_104 : decode mX1_goOn.2.1 104 = .ok (.getfield 25, 3) := by decide +kernel
theorem dX1_goOn_107 : decode mX1_goOn.2.1 107 = .ok (.iload_n 1, 1) := by decide +kernel
theorem dX1_goOn_108 : decode mX1_goOn.2.1 108 = .ok (.iload 5, 2) := by decide +kernel
theorem dX1_goOn_110 : decode mX1_goOn.2.1 110 = .ok (.iastore, 1) := by decide +kernel
theorem dX1_goOn_111 : decode mX1_goOn.2.1 111 = .ok (.aload_n 0, 1) := by decide +kernel
theorem dX1_goOn_112 : decode mX1_goOn.2.1 112 = .ok (.iload_n 1, 1) := by decide +kernel
theorem dX1_goOn_113 : decode mX1_goOn.2.1 113 = .ok (.iconst 1, 1) := by decide +kernel
theorem dX1_goOn_114 : decode mX1_goOn.2.1 114 = .ok (.iadd, 1) := by decide +kernel
theorem dX1_goOn_115 : decode mX1_goOn.2.1 115 = .ok (.iload_n 2, 1) := by decide +kernel
theorem dX1_goOn_116 : decode mX1_goOn.2.1 116 = .ok (.iconst 1, 1) := by decide +kernel
theorem dX1_goOn_117 : decode mX1_goOn.2.1 117 = .ok (.iload 5, 2) := by decide +kernel
theorem dX1_goOn_119 : decode mX1_goOn.2.1 119 = .ok (.ishl, 1) := by decide +kernel
theorem dX1_goOn_120 : decode mX1_goOn.2.1 120 = .ok (.ior, 1) := by decide +kernel
theorem dX1_goOn_121 : decode mX1_goOn.2.1 121 = .ok (.iload 6, 2) := by decide +kernel
theorem dX1_goOn_123 : decode mX1_goOn.2.1 123 = .ok (.bipush 100, 2) := by decide +kernel
theorem dX1_goOn_125 : decode mX1_goOn.2.1 125 = .ok (.irem, 1) := by decide +kernel
theorem dX1_goOn_126 : decode mX1_goOn.2.1 126 = .ok (.iload 4, 2) := by decide +kernel
theorem dX1_goOn_128 : decode mX1_goOn.2.1 128 = .ok (.iload 6, 2) := by decide +kernel
theorem dX1_goOn_130 : decode mX1_goOn.2.1 130 = .ok (.bipush 100, 2) := by decide +kernel
theorem dX1_goOn_132 : decode mX1_goOn.2.1 132 = .ok (.idiv, 1) := by decide +kernel
theorem dX1_goOn_133 : decode mX1_goOn.2.1 133 = .ok (.iadd, 1) := by decide +kernel
theorem dX1_goOn_134 : decode mX1_goOn.2.1 134 = .ok (.invokevirtual 44, 3) := by decide +kernel
theorem dX1_goOn_137 : decode mX1_goOn.2.1 137 = .ok (.iinc 5 1, 3) := by decide +kernel
theorem dX1_goOn_140 : decode mX1_goOn.2.1 140 = .ok (.goto (-86), 3) := by decide +kernel
theorem dX1_goOn_143 : decode mX1_goOn.2.1 143 = .ok (.return_, 1) := by decide +kernel
abbrev mX1_look : aM := (yX1_look, cX1_look, 5, (some .int))
theorem dX1_look_0 : decode mX1_look.2.1 0 = .ok (.iload_n 2, 1) := by decide +kernel
theorem dX1_look_1 : decode mX1_look.2.1 1 = .ok (.ifCond .le 9, 3) := by decide +kernel
theorem dX1_look_4 : decode mX1_look.2.1 4 = .ok (.iload_n 2, 1) := by decide +kernel
theorem dX1_look_5 : decode mX1_look.2.1 5 = .ok (.bipush 100, 2) := by decide +kernel
theorem dX1_look_7 : decode mX1_look.2.1 7 = .ok (.if_icmp .lt 5, 3) := by decide +kernel
theorem dX1_look_10 : decode mX1_look.2.1 10 = .ok (.iconst 0, 1) := by decide +kernel
theorem dX1_look_11 : decode mX1_look.2.1 11 = .ok (.ireturn, 1) := by decide +kernel
theorem dX1_look_12 : decode mX1_look.2.1 12 = .ok (.iload_n 1, 1) := by decide +kernel
theorem dX1_look_13 : decode mX1_look.2.1 13 = .ok (.bipush 100, 2) := by decide +kernel
theorem dX1_look_15 : decode mX1_look.2.1 15 = .ok (.imul, 1) := by decide +kernel
theorem dX1_look_16 : decode mX1_look.2.1 16 = .ok (.iload_n 2, 1) := by decide +kernel
theorem dX1_look_17 : decode mX1_look.2.1 17 = .ok (.iadd, 1) := by decide +kernel
theorem dX1_look_18 : decode mX1_look.2.1 18 = .ok (.istore_n 3, 1) := by decide +kernel
theorem dX1_look_19 : decode mX1_look.2.1 19 = .ok (.aload_n 0, 1) := by decide +kernel
theorem dX1_look_20 : decode mX1_look.2.1 20 = .ok (.getfield 28, 3) := by decide +kernel
theorem dX1_look_23 : decode mX1_look.2.1 23 = .ok (.iload_n 3, 1) := by decide +kernel
theorem dX1_look_24 : decode mX1_look.2.1 24 = .ok (.iaload, 1) := by decide +kernel
theorem dX1_look_25 : decode mX1_look.2.1 25 = .ok (.iconst (-1), 1) := by decide +kernel
theorem dX1_look_26 : decode mX1_look.2.1 26 = .ok (.if_icmp .ne 96, 3) := by decide +kernel
theorem dX1_look_29 : decode mX1_look.2.1 29 = .ok (.aload_n 0, 1) := by decide +kernel
theorem dX1_look_30 : decode mX1_look.2.1 30 = .ok (.getfield 31, 3) := by decide +kernel
theorem dX1_look_33 : decode mX1_look.2.1 33 = .ok (.aload_n 0, 1) := by decide +kernel
theorem dX1_look_34 : decode mX1_look.2.1 34 = .ok (.getfield 35, 3) := by decide +kernel
theorem dX1_look_37 : decode mX1_look.2.1 37 = .ok (.aload_n 0, 1) := by decide +kernel
theorem dX1_look_38 : decode mX1_look.2.1 38 = .ok (.getfield 9, 3) := by decide +kernel
theorem dX1_look_41 : decode mX1_look.2.1 41 = .ok (.iload_n 1, 1) := by decide +kernel
theorem dX1_look_42 : decode mX1_look.2.1 42 = .ok (.invokevirtual 61, 3) := by decide +kernel
theorem dX1_look_45 : decode mX1_look.2.1 45 = .ok (.aload_n 0, 1) := by decide +kernel
theorem dX1_look_46 : decode mX1_look.2.1 46 = .ok (.getfield 31, 3) := by decide +kernel
theorem dX1_look_49 : decode mX1_look.2.1 49 = .ok (.iload_n 2, 1) := by decide +kernel
theorem dX1_look_50 : decode mX1_look.2.1 50 = .ok (.putfield 67, 3) := by decide +kernel
theorem dX1_look_53 : decode mX1_look.2.1 53 = .ok (.aload_n 0, 1) := by decide +kernel
theorem dX1_look_54 : decode mX1_look.2.1 54 = .ok (.getfield 31, 3) := by decide +kernel
theorem dX1_look_57 : decode mX1_look.2.1 57 = .ok (.bipush 99, 2) := by decide +kernel
theorem dX1_look_59 : decode mX1_look.2.1 59 = .ok (.invokevirtual 69, 3) := by decide +kernel
theorem dX1_look_62 : decode mX1_look.2.1 62 = .ok (.aload_n 0, 1) := by decide +kernel
theorem dX1_look_63 : decode mX1_look.2.1 63 = .ok (.getfield 31, 3) := by decide +kernel
theorem dX1_look_66 : decode mX1_look.2.1 66 = .ok (.getfield 73, 3) := by decide +kernel
theorem dX1_look_69 : decode mX1_look.2.1 69 = .ok (.ifCond .ne 17, 3) := by decide +kernel
theorem dX1_look_72 : decode mX1_look.2.1 72 = .ok (.aload_n 0, 1) := by decide +kernel
theorem dX1_look_73 : decode mX1_look.2.1 73 = .ok (.getfield 31, 3) := by decide +kernel
theorem dX1_look_76 : decode mX1_look.2.1 76 = .ok (.getfield 67, 3) := by decide +kernel
theorem dX1_look_79 : decode mX1_look.2.1 79 = .ok (.ifCond .le 7, 3) := by decide +kernel
theorem dX1_look_82 : decode mX1_look.2.1 82 = .ok (.iconst 1, 1) := by decide +kernel
theorem dX1_look_83 : decode mX1_look.2.1 83 = .ok (.goto 4, 3) := by decide +kernel
theorem dX1_look_86 : decode mX1_look.2.1 86 = .ok (.iconst 0, 1) := by decide +kernel
theorem dX1_look_87 : decode mX1_look.2.1 87 = .ok (.istore 4, 2) := by decide +kernel
theorem dX1_look_89 : decode mX1_look.2.1 89 = .ok (.aload_n 0, 1) := by decide +kernel
theorem dX1_look_90 : decode mX1_look.2.1 90 = .ok (.getfield 28, 3) := by decide +kernel
theorem dX1_look_93 : decode mX1_look.2.1 93 = .ok (.iload_n 3, 1) := by decide +kernel
theorem dX1_look_94 : decode mX1_look.2.1 94 = .ok (.iload 4, 2) := by decide +kernel
theorem dX1_look_96 : decode mX1_look.2.1 96 = .ok (.ifCond .eq 24, 3) := by decide +kernel
theorem dX1_look_99 : decode mX1_look.2.1 99 = .ok (.aload_n 0, 1) := by decide +kernel
theorem dX1_look_100 : decode mX1_look.2.1 100 = .ok (.getfield 31, 3) := by decide +kernel
theorem dX1_look_103 : decode mX1_look.2.1 103 = .ok (.getfield 75, 3) := by decide +kernel
theorem dX1_look_106 : decode mX1_look.2.1 106 = .ok (.bipush 100, 2) := by decide +kernel
theorem dX1_look_108 : decode mX1_look.2.1 108 = .ok (.imul, 1) := by decide +kernel
theorem dX1_look_109 : decode mX1_look.2.1 109 = .ok (.aload_n 0, 1) := by decide +kernel
theorem dX1_look_110 : decode mX1_look.2.1 110 = .ok (.getfield 31, 3) := by decide +kernel
theorem dX1_look_113 : decode mX1_look.2.1 113 = .ok (.getfield 67, 3) := by decide +kernel
theorem dX1_look_116 : decode mX1_look.2.1 116 = .ok (.iadd, 1) := by decide +kernel
theorem dX1_look_117 : decode mX1_look.2.1 117 = .ok (.goto 4, 3) := by decide +kernel
theorem dX1_look_120 : decode mX1_look.2.1 120 = .ok (.iconst 0, 1) := by decide +kernel
theorem dX1_look_121 : decode mX1_look.2.1 121 = .ok (.iastore, 1) := by decide +kernel
theorem dX1_look_122 : decode mX1_look.2.1 122 = .ok (.aload_n 0, 1) := by decide +kernel
theorem dX1_look_123 : decode mX1_look.2.1 123 = .ok (.getfield 28, 3) := by decide +kernel
theorem dX1_look_126 : decode mX1_look.2.1 126 = .ok (.iload_n 3, 1) := by decide +kernel
theorem dX1_look_127 : decode mX1_look.2.1 127 = .ok (.iaload, 1) := by decide +kernel
theorem dX1_look_128 : decode mX1_look.2.1 128 = .ok (.ireturn, 1) := by decide +kernel
abbrev mX2_init : aM := (yX2_init, cX2_init, 1, none)
theorem dX2_init_0 : decode mX2_init.2.1 0 = .ok (.aload_n 0, 1) := by decide +kernel
theorem dX2_init_1 : decode mX2_init.2.1 1 = .ok (.invokespecial 3, 3) := by decide +kernel
theorem dX2_init_4 : decode mX2_init.2.1 4 = .ok (.aload_n 0, 1) := by decide +kernel
theorem dX2_init_5 : decode mX2_init.2.1 5 = .ok (.sipush 840, 3) := by decide +kernel
theorem dX2_init_8 : decode mX2_init.2.1 8 = .ok (.newarray .int, 2) := by decide +kernel
theorem dX2_init_10 : decode mX2_init.2.1 10 = .ok (.putfield 11, 3) := by decide +kernel
theorem dX2_init_13 : decode mX2_init.2.1 13 = .ok (.return_, 1) := by decide +kernel
abbrev mX2_put : aM := (yX2_put, cX2_put, 4, none)
theorem dX2_put_0 : decode mX2_put.2.1 0 = .ok (.iload_n 1, 1) := by decide +kernel
theorem dX2_put_1 : decode mX2_put.2.1 1 = .ok (.ifCond .lt 38, 3) := by decide +kernel
theorem dX2_put_4 : decode mX2_put.2.1 4 = .ok (.aload_n 0, 1) := by decide +kernel
theorem dX2_put_5 : decode mX2_put.2.1 5 = .ok (.getfield 11, 3) := by decide +kernel
theorem dX2_put_8 : decode mX2_put.2.1 8 = .ok (.iload_n 1, 1) := by decide +kernel
theorem dX2_put_9 : decode mX2_put.2.1 9 = .ok (.sipush 840, 3) := by decide +kernel
theorem dX2_put_12 : decode mX2_put.2.1 12 = .ok (.irem, 1) := by decide +kernel
theorem dX2_put_13 : decode mX2_put.2.1 13 = .ok (.iload_n 2, 1) := by decide +kernel
theorem dX2_put_14 : decode mX2_put.2.1 14 = .ok (.bipush 16, 2) := by decide +kernel
theorem dX2_put_16 : decode mX2_put.2.1 16 = .ok (.ishl, 1) := by decide +kernel
theorem dX2_put_17 : decode mX2_put.2.1 17 = .ok (.aload_n 3, 1) := by decide +kernel
theorem dX2_put_18 : decode mX2_put.2.1 18 = .ok (.getfield 15, 3) := by decide +kernel
theorem dX2_put_21 : decode mX2_put.2.1 21 = .ok (.bipush 12, 2) := by decide +kernel
theorem dX2_put_23 : decode mX2_put.2.1 23 = .ok (.ishl, 1) := by decide +kernel
theorem dX2_put_24 : decode mX2_put.2.1 24 = .ok (.ior, 1) := by decide +kernel
theorem dX2_put_25 : decode mX2_put.2.1 25 = .ok (.aload_n 3, 1) := by decide +kernel
theorem dX2_put_26 : decode mX2_put.2.1 26 = .ok (.getfield 21, 3) := by decide +kernel
theorem dX2_put_29 : decode mX2_put.2.1 29 = .ok (.bipush 8, 2) := by decide +kernel
theorem dX2_put_31 : decode mX2_put.2.1 31 = .ok (.ishl, 1) := by decide +kernel
theorem dX2_put_32 : decode mX2_put.2.1 32 = .ok (.ior, 1) := by decide +kernel
theorem dX2_put_33 : decode mX2_put.2.1 33 = .ok (.aload_n 3, 1) := by decide +kernel
theorem dX2_put_34 : decode mX2_put.2.1 34 = .ok (.getfield 24, 3) := by decide +kernel
theorem dX2_put_37 : decode mX2_put.2.1 37 = .ok (.ior, 1) := by decide +kernel
theorem dX2_put_38 : decode mX2_put.2.1 38 = .ok (.iastore, 1) := by decide +kernel
theorem dX2_put_39 : decode mX2_put.2.1 39 = .ok (.return_, 1) := by decide +kernel
abbrev mX2_tell : aM := (yX2_tell, cX2_tell, 4, (some .int))
theorem dX2_tell_0 : decode mX2_tell.2.1 0 = .ok (.iload_n 1, 1) := by decide +kernel
theorem dX2_tell_1 : decode mX2_tell.2.1 1 = .ok (.ifCond .ge 5, 3) := by decide +kernel
theorem dX2_tell_4 : decode mX2_tell.2.1 4 = .ok (.iconst (-1), 1) := by decide +kernel
theorem dX2_tell_5 : decode mX2_tell.2.1 5 = .ok (.ireturn, 1) := by decide +kernel
theorem dX2_tell_6 : decode mX2_tell.2.1 6 = .ok (.aload_n 0, 1) := by decide +kernel
theorem dX2_tell_7 : decode mX2_tell.2.1 7 = .ok (.getfield 11, 3) := by decide +kernel
theorem dX2_tell_10 : decode mX2_tell.2.1 10 = .ok (.iload_n 1, 1) := by decide +kernel
theorem dX2_tell_11 : decode mX2_tell.2.1 11 = .ok (.sipush 840, 3) := by decide +kernel
theorem dX2_tell_14 : decode mX2_tell.2.1 14 = .ok (.irem, 1) := by decide +kernel
theorem dX2_tell_15 : decode mX2_tell.2.1 15 = .ok (.iaload, 1) := by decide +kernel
theorem dX2_tell_16 : decode mX2_tell.2.1 16 = .ok (.istore_n 3, 1) := by decide +kernel
theorem dX2_tell_17 : decode mX2_tell.2.1 17 = .ok (.iload_n 2, 1) := by decide +kernel
theorem dX2_tell_18 : decode mX2_tell.2.1 18 = .ok (.tableswitch 47 0 2 #[26, 31, 39], 26) := by decide +kernel
theorem dX2_tell_44 : decode mX2_tell.2.1 44 = .ok (.iload_n 3, 1) := by decide +kernel
theorem dX2_tell_45 : decode mX2_tell.2.1 45 = .ok (.bipush 16, 2) := by decide +kernel
theorem dX2_tell_47 : decode mX2_tell.2.1 47 = .ok (.ishr, 1) := by decide +kernel
theorem dX2_tell_48 : decode mX2_tell.2.1 48 = .ok (.ireturn, 1) := by decide +kernel
theorem dX2_tell_49 : decode mX2_tell.2.1 49 = .ok (.iload_n 3, 1) := by decide +kernel
theorem dX2_tell_50 : decode mX2_tell.2.1 50 = .ok (.bipush 12, 2) := by decide +kernel
theorem dX2_tell_52 : decode mX2_tell.2.1 52 = .ok (.ishr, 1) := by decide +kernel
theorem dX2_tell_53 : decode mX2_tell.2.1 53 = .ok (.bipush 15, 2) := by decide +kernel
theorem dX2_tell_55 : decode mX2_tell.2.1 55 = .ok (.iand, 1) := by decide +kernel
theorem dX2_tell_56 : decode mX2_tell.2.1 56 = .ok (.ireturn, 1) := by decide +kernel
theorem dX2_tell_57 : decode mX2_tell.2.1 57 = .ok (.iload_n 3, 1) := by decide +kernel
theorem dX2_tell_58 : decode mX2_tell.2.1 58 = .ok (.bipush 8, 2) := by decide +kernel
theorem dX2_tell_60 : decode mX2_tell.2.1 60 = .ok (.ishr, 1) := by decide +kernel
theorem dX2_tell_61 : decode mX2_tell.2.1 61 = .ok (.bipush 15, 2) := by decide +kernel
theorem dX2_tell_63 : decode mX2_tell.2.1 63 = .ok (.iand, 1) := by decide +kernel
theorem dX2_tell_64 : decode mX2_tell.2.1 64 = .ok (.ireturn, 1) := by decide +kernel
theorem dX2_tell_65 : decode mX2_tell.2.1 65 = .ok (.iload_n 3, 1) := by decide +kernel
theorem dX2_tell_66 : decode mX2_tell.2.1 66 = .ok (.sipush 255, 3) := by decide +kernel
theorem dX2_tell_69 : decode mX2_tell.2.1 69 = .ok (.iand, 1) := by decide +kernel
theorem dX2_tell_70 : decode mX2_tell.2.1 70 = .ok (.ireturn, 1) := by decide +kernel
abbrev mX3_init : aM := (yX3_init, cX3_init, 3, none)
theorem dX3_init_0 : decode mX3_init.2.1 0 = .ok (.aload_n 0, 1) := by decide +kernel
theorem dX3_init_1 : decode mX3_init.2.1 1 = .ok (.invokespecial 3, 3) := by decide +kernel
theorem dX3_init_4 : decode mX3_init.2.1 4 = .ok (.aload_n 0, 1) := by decide +kernel
theorem dX3_init_5 : decode mX3_init.2.1 5 = .ok (.iconst 0, 1) := by decide +kernel
theorem dX3_init_6 : decode mX3_init.2.1 6 = .ok (.putfield 9, 3) := by decide +kernel
theorem dX3_init_9 : decode mX3_init.2.1 9 = .ok (.aload_n 0, 1) := by decide +kernel
theorem dX3_init_10 : decode mX3_init.2.1 10 = .ok (.iconst (-1), 1) := by decide +kernel
theorem dX3_init_11 : decode mX3_init.2.1 11 = .ok (.putfield 15, 3) := by decide +kernel
theorem dX3_init_14 : decode mX3_init.2.1 14 = .ok (.aload_n 0, 1) := by decide +kernel
theorem dX3_init_15 : decode mX3_init.2.1 15 = .ok (.bipush 6, 2) := by decide +kernel
theorem dX3_init_17 : decode mX3_init.2.1 17 = .ok (.newarray .int, 2) := by decide +kernel
theorem dX3_init_19 : decode mX3_init.2.1 19 = .ok (.putfield 19, 3) := by decide +kernel
theorem dX3_init_22 : decode mX3_init.2.1 22 = .ok (.aload_n 0, 1) := by decide +kernel
theorem dX3_init_23 : decode mX3_init.2.1 23 = .ok (.bipush 6, 2) := by decide +kernel
theorem dX3_init_25 : decode mX3_init.2.1 25 = .ok (.newarray .int, 2) := by decide +kernel
theorem dX3_init_27 : decode mX3_init.2.1 27 = .ok (.putfield 23, 3) := by decide +kernel
theorem dX3_init_30 : decode mX3_init.2.1 30 = .ok (.aload_n 0, 1) := by decide +kernel
theorem dX3_init_31 : decode mX3_init.2.1 31 = .ok (.bipush 30, 2) := by decide +kernel
theorem dX3_init_33 : decode mX3_init.2.1 33 = .ok (.newarray .int, 2) := by decide +kernel
theorem dX3_init_35 : decode mX3_init.2.1 35 = .ok (.putfield 26, 3) := by decide +kernel
theorem dX3_init_38 : decode mX3_init.2.1 38 = .ok (.aload_n 0, 1) := by decide +kernel
theorem dX3_init_39 : decode mX3_init.2.1 39 = .ok (.aload_n 1, 1) := by decide +kernel
theorem dX3_init_40 : decode mX3_init.2.1 40 = .ok (.putfield 29, 3) := by decide +kernel
theorem dX3_init_43 : decode mX3_init.2.1 43 = .ok (.aload_n 0, 1) := by decide +kernel
theorem dX3_init_44 : decode mX3_init.2.1 44 = .ok (.aload_n 2, 1) := by decide +kernel
theorem dX3_init_45 : decode mX3_init.2.1 45 = .ok (.putfield 33, 3) := by decide +kernel
theorem dX3_init_48 : decode mX3_init.2.1 48 = .ok (.return_, 1) := by decide +kernel
abbrev mX3_solve : aM := (yX3_solve, cX3_solve, 4, none)
theorem dX3_solve_0 : decode mX3_solve.2.1 0 = .ok (.iconst 0, 1) := by decide +kernel
theorem dX3_solve_1 : decode mX3_solve.2.1 1 = .ok (.istore_n 1, 1) := by decide +kernel
theorem dX3_solve_2 : decode mX3_solve.2.1 2 = .ok (.iload_n 1, 1) := by decide +kernel
theorem dX3_solve_3 : decode mX3_solve.2.1 3 = .ok (.aload_n 0, 1) := by decide +kernel
theorem dX3_solve_4 : decode mX3_solve.2.1 4 = .ok (.getfield 29, 3) := by decide +kernel
theorem dX3_solve_7 : decode mX3_solve.2.1 7 = .ok (.getfield 37, 3) := by decide +kernel
theorem dX3_solve_10 : decode mX3_solve.2.1 10 = .ok (.getfield 43, 3) := by decide +kernel
theorem dX3_solve_13 : decode mX3_solve.2.1 13 = .ok (.iconst 1, 1) := by decide +kernel
theorem dX3_solve_14 : decode mX3_solve.2.1 14 = .ok (.iaload, 1) := by decide +kernel
theorem dX3_solve_15 : decode mX3_solve.2.1 15 = .ok (.if_icmp .ge 90, 3) := by decide +kernel
theorem dX3_solve_18 : decode mX3_solve.2.1 18 = .ok (.iconst 0, 1) := by decide +kernel
theorem dX3_solve_19 : decode mX3_solve.2.1 19 = .ok (.istore_n 2, 1) := by decide +kernel
theorem dX3_solve_20 : decode mX3_solve.2.1 20 = .ok (.iload_n 2, 1) := by decide +kernel
theorem dX3_solve_21 : decode mX3_solve.2.1 21 = .ok (.aload_n 0, 1) := by decide +kernel
theorem dX3_solve_22 : decode mX3_solve.2.1 22 = .ok (.getfield 29, 3) := by decide +kernel
theorem dX3_solve_25 : decode mX3_solve.2.1 25 = .ok (.getfield 37, 3) := by decide +kernel
theorem dX3_solve_28 : decode mX3_solve.2.1 28 = .ok (.getfield 43, 3) := by decide +kernel
theorem dX3_solve_31 : decode mX3_solve.2.1 31 = .ok (.iconst 0, 1) := by decide +kernel
theorem dX3_solve_32 : decode mX3_solve.2.1 32 = .ok (.iaload, 1) := by decide +kernel
theorem dX3_solve_33 : decode mX3_solve.2.1 33 = .ok (.if_icmp .ge 66, 3) := by decide +kernel
theorem dX3_solve_36 : decode mX3_solve.2.1 36 = .ok (.aload_n 0, 1) := by decide +kernel
theorem dX3_solve_37 : decode mX3_solve.2.1 37 = .ok (.getfield 29, 3) := by decide +kernel
theorem dX3_solve_40 : decode mX3_solve.2.1 40 = .ok (.aload_n 0, 1) := by decide +kernel
theorem dX3_solve_41 : decode mX3_solve.2.1 41 = .ok (.getfield 33, 3) := by decide +kernel
theorem dX3_solve_44 : decode mX3_solve.2.1 44 = .ok (.iload_n 2, 1) := by decide +kernel
theorem dX3_solve_45 : decode mX3_solve.2.1 45 = .ok (.iload_n 1, 1) := by decide +kernel
theorem dX3_solve_46 : decode mX3_solve.2.1 46 = .ok (.invokevirtual 48, 3) := by decide +kernel
theorem dX3_solve_49 : decode mX3_solve.2.1 49 = .ok (.ifCond .eq 17, 3) := by decide +kernel
theorem dX3_solve_52 : decode mX3_solve.2.1 52 = .ok (.aload_n 0, 1) := by decide +kernel
theorem dX3_solve_53 : decode mX3_solve.2.1 53 = .ok (.getfield 29, 3) := by decide +kernel
theorem dX3_solve_56 : decode mX3_solve.2.1 56 = .ok (.getfield 52, 3) := by decide +kernel
theorem dX3_solve_59 : decode mX3_solve.2.1 59 = .ok (.ifCond .le 7, 3) := by decide +kernel
theorem dX3_solve_62 : decode mX3_solve.2.1 62 = .ok (.iconst 1, 1) := by decide +kernel
theorem dX3_solve_63 : decode mX3_solve.2.1 63 = .ok (.goto 4, 3) := by decide +kernel
theorem dX3_solve_66 : decode mX3_solve.2.1 66 = .ok (.iconst 0, 1) := by decide +kernel
theorem dX3_solve_67 : decode mX3_solve.2.1 67 = .ok (.istore_n 3, 1) := by decide +kernel
theorem dX3_solve_68 : decode mX3_solve.2.1 68 = .ok (.aload_n 0, 1) := by decide +kernel
theorem dX3_solve_69 : decode mX3_solve.2.1 69 = .ok (.getfield 26, 3) := by decide +kernel
theorem dX3_solve_72 : decode mX3_solve.2.1 72 = .ok (.iload_n 1, 1) := by decide +kernel
theorem dX3_solve_73 : decode mX3_solve.2.1 73 = .ok (.iconst 5, 1) := by decide +kernel
theorem dX3_solve_74 : decode mX3_solve.2.1 74 = .ok (.imul, 1) := by decide +kernel
theorem dX3_solve_75 : decode mX3_solve.2.1 75 = .ok (.iload_n 2, 1) := by decide +kernel
theorem dX3_solve_76 : decode mX3_solve.2.1 76 = .ok (.iadd, 1) := by decide +kernel
theorem dX3_solve_77 : decode mX3_solve.2.1 77 = .ok (.iload_n 3, 1) := by decide +kernel
theorem dX3_solve_78 : decode mX3_solve.2.1 78 = .ok (.ifCond .eq 13, 3) := by decide +kernel
theorem dX3_solve_81 : decode mX3_solve.2.1 81 = .ok (.aload_n 0, 1) := by decide +kernel
theorem dX3_solve_82 : decode mX3_solve.2.1 82 = .ok (.getfield 29, 3) := by decide +kernel
theorem dX3_solve_85 : decode mX3_solve.2.1 85 = .ok (.getfield 55, 3) := by decide +kernel
theorem dX3_solve_88 : decode mX3_solve.2.1 88 = .ok (.goto 4, 3) := by decide +kernel
theorem dX3_solve_91 : decode mX3_solve.2.1 91 = .ok (.iconst (-1), 1) := by decide +kernel
theorem dX3_solve_92 : decode mX3_solve.2.1 92 = .ok (.iastore, 1) := by decide +kernel
theorem dX3_solve_93 : decode mX3_solve.2.1 93 = .ok (.iinc 2 1, 3) := by decide +kernel
theorem dX3_solve_96 : decode mX3_solve.2.1 96 = .ok (.goto (-76), 3) := by decide +kernel
theorem dX3_solve_99 : decode mX3_solve.2.1 99 = .ok (.iinc 1 1, 3) := by decide +kernel
theorem dX3_solve_102 : decode mX3_solve.2.1 102 = .ok (.goto (-100), 3) := by decide +kernel
theorem dX3_solve_105 : decode mX3_solve.2.1 105 = .ok (.aload_n 0, 1) := by decide +kernel
theorem dX3_solve_106 : decode mX3_solve.2.1 106 = .ok (.iconst (-1), 1) := by decide +kernel
theorem dX3_solve_107 : decode mX3_solve.2.1 107 = .ok (.putfield 15, 3) := by decide +kernel
theorem dX3_solve_110 : decode mX3_solve.2.1 110 = .ok (.aload_n 0, 1) := by decide +kernel
theorem dX3_solve_111 : decode mX3_solve.2.1 111 = .ok (.iconst 0, 1) := by decide +kernel
theorem dX3_solve_112 : decode mX3_solve.2.1 112 = .ok (.iconst 0, 1) := by decide +kernel
theorem dX3_solve_113 : decode mX3_solve.2.1 113 = .ok (.iconst 0, 1) := by decide +kernel
theorem dX3_solve_114 : decode mX3_solve.2.1 114 = .ok (.invokevirtual 58, 3) := by decide +kernel
theorem dX3_solve_117 : decode mX3_solve.2.1 117 = .ok (.aload_n 0, 1) := by decide +kernel
theorem dX3_solve_118 : decode mX3_solve.2.1 118 = .ok (.iconst 1, 1) := by decide +kernel
theorem dX3_solve_119 : decode mX3_solve.2.1 119 = .ok (.putfield 9, 3) := by decide +kernel
theorem dX3_solve_122 : decode mX3_solve.2.1 122 = .ok (.return_, 1) := by decide +kernel
abbrev mX3_seat : aM := (yX3_seat, cX3_seat, 6, none)
theorem dX3_seat_0 : decode mX3_seat.2.1 0 = .ok (.aload_n 0, 1) := by decide +kernel
theorem dX3_seat_1 : decode mX3_seat.2.1 1 = .ok (.getfield 15, 3) := by decide +kernel
theorem dX3_seat_4 : decode mX3_seat.2.1 4 = .ok (.iconst (-1), 1) := by decide +kernel
theorem dX3_seat_5 : decode mX3_seat.2.1 5 = .ok (.if_icmp .eq 12, 3) := by decide +kernel
theorem dX3_seat_8 : decode mX3_seat.2.1 8 = .ok (.iload_n 3, 1) := by decide +kernel
theorem dX3_seat_9 : decode mX3_seat.2.1 9 = .ok (.aload_n 0, 1) := by decide +kernel
theorem dX3_seat_10 : decode mX3_seat.2.1 10 = .ok (.getfield 15, 3) := by decide +kernel
theorem dX3_seat_13 : decode mX3_seat.2.1 13 = .ok (.if_icmp .lt 4, 3) := by decide +kernel
theorem dX3_seat_16 : decode mX3_seat.2.1 16 = .ok (.return_, 1) := by decide +kernel
theorem dX3_seat_17 : decode mX3_seat.2.1 17 = .ok (.iload_n 1, 1) := by decide +kernel
theorem dX3_seat_18 : decode mX3_seat.2.1 18 = .ok (.aload_n 0, 1) := by decide +kernel
theorem dX3_seat_19 : decode mX3_seat.2.1 19 = .ok (.getfield 29, 3) := by decide +kernel
theorem dX3_seat_22 : decode mX3_seat.2.1 22 = .ok (.getfield 37, 3) := by decide +kernel
theorem dX3_seat_25 : decode mX3_seat.2.1 25 = .ok (.getfield 43, 3) := by decide +kernel
theorem dX3_seat_28 : decode mX3_seat.2.1 28 = .ok (.iconst 1, 1) := by decide +kernel
theorem dX3_seat_29 : decode mX3_seat.2.1 29 = .ok (.iaload, 1) := by decide +kernel
theorem dX3_seat_30 : decode mX3_seat.2.1 30 = .ok (.if_icmp .ge 9, 3) := by decide +kernel
theorem dX3_seat_33 : decode mX3_seat.2.1 33 = .ok (.iload_n 1, 1) := by decide +kernel
theorem dX3_seat_34 : decode mX3_seat.2.1 34 = .ok (.bipush 6, 2) := by decide +kernel
theorem dX3_seat_36 : decode mX3_seat.2.1 36 = .ok (.if_icmp .lt 24, 3) := by decide +kernel
theorem dX3_seat_39 : decode mX3_seat.2.1 39 = .ok (.aload_n 0, 1) := by decide +kernel
theorem dX3_seat_40 : decode mX3_seat.2.1 40 = .ok (.iload_n 3, 1) := by decide +kernel
theorem dX3_seat_41 : decode mX3_seat.2.1 41 = .ok (.putfield 15, 3) := by decide +kernel
theorem dX3_seat_44 : decode mX3_seat.2.1 44 = .ok (.aload_n 0, 1) := by decide +kernel
theorem dX3_seat_45 : decode mX3_seat.2.1 45 = .ok (.getfield 23, 3) := by decide +kernel
theorem dX3_seat_48 : decode mX3_seat.2.1 48 = .ok (.iconst 0, 1) := by decide +kernel
theorem dX3_seat_49 : decode mX3_seat.2.1 49 = .ok (.aload_n 0, 1) := by decide +kernel
theorem dX3_seat_50 : decode mX3_seat.2.1 50 = .ok (.getfield 19, 3) := by decide +kernel
theorem dX3_seat_53 : decode mX3_seat.2.1 53 = .ok (.iconst 0, 1) := by decide +kernel
theorem dX3_seat_54 : decode mX3_seat.2.1 54 = .ok (.bipush 6, 2) := by decide +kernel
theorem dX3_seat_56 : decode mX3_seat.2.1 56 = .ok (.invokestatic 62, 3) := by decide +kernel
theorem dX3_seat_59 : decode mX3_seat.2.1 59 = .ok (.return_, 1) := by decide +kernel
theorem dX3_seat_60 : decode mX3_seat.2.1 60 = .ok (.aload_n 0, 1) := by decide +kernel
theorem dX3_seat_61 : decode mX3_seat.2.1 61 = .ok (.getfield 33, 3) := by decide +kernel
theorem dX3_seat_64 : decode mX3_seat.2.1 64 = .ok (.getfield 68, 3) := by decide +kernel
theorem dX3_seat_67 : decode mX3_seat.2.1 67 = .ok (.iload_n 1, 1) := by decide +kernel
theorem dX3_seat_68 : decode mX3_seat.2.1 68 = .ok (.iaload, 1) := by decide +kernel
theorem dX3_seat_69 : decode mX3_seat.2.1 69 = .ok (.ifCond .ne 20, 3) := by decide +kernel
theorem dX3_seat_72 : decode mX3_seat.2.1 72 = .ok (.aload_n 0, 1) := by decide +kernel
theorem dX3_seat_73 : decode mX3_seat.2.1 73 = .ok (.getfield 23, 3) := by decide +kernel
theorem dX3_seat_76 : decode mX3_seat.2.1 76 = .ok (.iload_n 1, 1) := by decide +kernel
theorem dX3_seat_77 : decode mX3_seat.2.1 77 = .ok (.iconst (-1), 1) := by decide +kernel
theorem dX3_seat_78 : decode mX3_seat.2.1 78 = .ok (.iastore, 1) := by decide +kernel
theorem dX3_seat_79 : decode mX3_seat.2.1 79 = .ok (.aload_n 0, 1) := by decide +kernel
theorem dX3_seat_80 : decode mX3_seat.2.1 80 = .ok (.iload_n 1, 1) := by decide +kernel
theorem dX3_seat_81 : decode mX3_seat.2.1 81 = .ok (.iconst 1, 1) := by decide +kernel
theorem dX3_seat_82 : decode mX3_seat.2.1 82 = .ok (.iadd, 1) := by decide +kernel
theorem dX3_seat_83 : decode mX3_seat.2.1 83 = .ok (.iload_n 2, 1) := by decide +kernel
theorem dX3_seat_84 : decode mX3_seat.2.1 84 = .ok (.iload_n 3, 1) := by decide +kernel
theorem dX3_seat_85 : decode mX3_seat.2.1 85 = .ok (.invokevirtual 58, 3) := by decide +kernel
theorem dX3_seat_88 : decode mX3_seat.2.1 88 = .ok (.return_, 1) := by decide +kernel
theorem dX3_seat_89 : decode mX3_seat.2.1 89 = .ok (.iconst 0, 1) := by decide +kernel
theorem dX3_seat_90 : decode mX3_seat.2.1 90 = .ok (.istore 4, 2) := by decide +kernel
theorem dX3_seat_92 : decode mX3_seat.2.1 92 = .ok (.iload 4, 2) := by decide +kernel
theorem dX3_seat_94 : decode mX3_seat.2.1 94 = .ok (.aload_n 0, 1) := by decide +kernel
theorem dX3_seat_95 : decode mX3_seat.2.1 95 = .ok (.getfield 29, 3) := by decide +kernel
theorem dX3_seat_98 : decode mX3_seat.2.1 98 = .ok (.getfield 37, 3) := by decide +kernel
theorem dX3_seat_101 : decode mX3_seat.2.1 101 = .ok (.getfield 43, 3) := by decide +kernel
theorem dX3_seat_104 : decode mX3_seat.2.1 104 = .ok (.iconst 0, 1) := by decide +kernel
theorem dX3_seat_105 : decode mX3_seat.2.1 105 = .ok (.iaload, 1) := by decide +kernel
theorem dX3_seat_106 : decode mX3_seat.2.1 106 = .ok (.if_icmp .ge 62, 3) := by decide +kernel
theorem dX3_seat_109 : decode mX3_seat.2.1 109 = .ok (.aload_n 0, 1) := by decide +kernel
theorem dX3_seat_110 : decode mX3_seat.2.1 110 = .ok (.getfield 26, 3) := by decide +kernel
theorem dX3_seat_113 : decode mX3_seat.2.1 113 = .ok (.iload_n 1, 1) := by decide +kernel
theorem dX3_seat_114 : decode mX3_seat.2.1 114 = .ok (.iconst 5, 1) := by decide +kernel
theorem dX3_seat_115 : decode mX3_seat.2.1 115 = .ok (.imul, 1) := by decide +kernel
theorem dX3_seat_116 : decode mX3_seat.2.1 116 = .ok (.iload 4, 2) := by decide +kernel
theorem dX3_seat_118 : decode mX3_seat.2.1 118 = .ok (.iadd, 1) := by decide +kernel
theorem dX3_seat_119 : decode mX3_seat.2.1 119 = .ok (.iaload, 1) := by decide +kernel
theorem dX3_seat_120 : decode mX3_seat.2.1 120 = .ok (.istore 5, 2) := by decide +kernel
theorem dX3_seat_122 : decode mX3_seat.2.1 122 = .ok (.iload_n 2, 1) := by decide +kernel
theorem dX3_seat_123 : decode mX3_seat.2.1 123 = .ok (.iload 4, 2) := by decide +kernel
theorem dX3_seat_125 : decode mX3_seat.2.1 125 = .ok (.ishr, 1) := by decide +kernel
theorem dX3_seat_126 : decode mX3_seat.2.1 126 = .ok (.iconst 1, 1) := by decide +kernel
theorem dX3_seat_127 : decode mX3_seat.2.1 127 = .ok (.iand, 1) := by decide +kernel
theorem dX3_seat_128 : decode mX3_seat.2.1 128 = .ok (.ifCond .ne 34, 3) := by decide +kernel
theorem dX3_seat_131 : decode mX3_seat.2.1 131 = .ok (.iload 5, 2) := by decide +kernel
theorem dX3_seat_133 : decode mX3_seat.2.1 133 = .ok (.iconst (-1), 1) := by decide +kernel
theorem dX3_seat_134 : decode mX3_seat.2.1 134 = .ok (.if_icmp .eq 28, 3) := by decide +kernel
theorem dX3_seat_137 : decode mX3_seat.2.1 137 = .ok (.aload_n 0, 1) := by decide +kernel
theorem dX3_seat_138 : decode mX3_seat.2.1 138 = .ok (.getfield 23, 3) := by decide +kernel
theorem dX3_seat_141 : decode mX3_seat.2.1 141 = .ok (.iload_n 1, 1) := by decide +kernel
theorem dX3_seat_142 : decode mX3_seat.2.1 142 = .ok (.iload 4, 2) := by decide +kernel
theorem dX3_seat_144 : decode mX3_seat.2.1 144 = .ok (.iastore, 1) := by decide +kernel
theorem dX3_seat_145 : decode mX3_seat.2.1 145 = .ok (.aload_n 0, 1) := by decide +kernel
theorem dX3_seat_146 : decode mX3_seat.2.1 146 = .ok (.iload_n 1, 1) := by decide +kernel
theorem dX3_seat_147 : decode mX3_seat.2.1 147 = .ok (.iconst 1, 1) := by decide +kernel
theorem dX3_seat_148 : decode mX3_seat.2.1 148 = .ok (.iadd, 1) := by decide +kernel
theorem dX3_seat_149 : decode mX3_seat.2.1 149 = .ok (.iload_n 2, 1) := by decide +kernel
theorem dX3_seat_150 : decode mX3_seat.2.1 150 = .ok (.iconst 1, 1) := by decide +kernel
theorem dX3_seat_151 : decode mX3_seat.2.1 151 = .ok (.iload 4, 2) := by decide +kernel
theorem dX3_seat_153 : decode mX3_seat.2.1 153 = .ok (.ishl, 1) := by decide +kernel
theorem dX3_seat_154 : decode mX3_seat.2.1 154 = .ok (.ior, 1) := by decide +kernel
theorem dX3_seat_155 : decode mX3_seat.2.1 155 = .ok (.iload_n 3, 1) := by decide +kernel
theorem dX3_seat_156 : decode mX3_seat.2.1 156 = .ok (.iload 5, 2) := by decide +kernel
theorem dX3_seat_158 : decode mX3_seat.2.1 158 = .ok (.iadd, 1) := by decide +kernel
theorem dX3_seat_159 : decode mX3_seat.2.1 159 = .ok (.invokevirtual 58, 3) := by decide +kernel
theorem dX3_seat_162 : decode mX3_seat.2.1 162 = .ok (.iinc 4 1, 3) := by decide +kernel
theorem dX3_seat_165 : decode mX3_seat.2.1 165 = .ok (.goto (-73), 3) := by decide +kernel
theorem dX3_seat_168 : decode mX3_seat.2.1 168 = .ok (.return_, 1) := by decide +kernel
abbrev mX5_init : aM := (yX5_init, cX5_init, 2, none)
theorem dX5_init_0 : decode mX5_init.2.1 0 = .ok (.aload_n 0, 1) := by decide +kernel
theorem dX5_init_1 : decode mX5_init.2.1 1 = .ok (.invokespecial 3, 3) := by decide +kernel
theorem dX5_init_4 : decode mX5_init.2.1 4 = .ok (.aload_n 0, 1) := by decide +kernel
theorem dX5_init_5 : decode mX5_init.2.1 5 = .ok (.iconst 3, 1) := by decide +kernel
theorem dX5_init_6 : decode mX5_init.2.1 6 = .ok (.newarray .int, 2) := by decide +kernel
theorem dX5_init_8 : decode mX5_init.2.1 8 = .ok (.putfield 9, 3) := by decide +kernel
theorem dX5_init_11 : decode mX5_init.2.1 11 = .ok (.aload_n 0, 1) := by decide +kernel
theorem dX5_init_12 : decode mX5_init.2.1 12 = .ok (.bipush 18, 2) := by decide +kernel
theorem dX5_init_14 : decode mX5_init.2.1 14 = .ok (.newarray .int, 2) := by decide +kernel
theorem dX5_init_16 : decode mX5_init.2.1 16 = .ok (.putfield 15, 3) := by decide +kernel
theorem dX5_init_19 : decode mX5_init.2.1 19 = .ok (.aload_n 0, 1) := by decide +kernel
theorem dX5_init_20 : decode mX5_init.2.1 20 = .ok (.bipush 18, 2) := by decide +kernel
theorem dX5_init_22 : decode mX5_init.2.1 22 = .ok (.newarray .int, 2) := by decide +kernel
theorem dX5_init_24 : decode mX5_init.2.1 24 = .ok (.putfield 18, 3) := by decide +kernel
theorem dX5_init_27 : decode mX5_init.2.1 27 = .ok (.aload_n 0, 1) := by decide +kernel
theorem dX5_init_28 : decode mX5_init.2.1 28 = .ok (.bipush 18, 2) := by decide +kernel
theorem dX5_init_30 : decode mX5_init.2.1 30 = .ok (.newarray .int, 2) := by decide +kernel
theorem dX5_init_32 : decode mX5_init.2.1 32 = .ok (.putfield 21, 3) := by decide +kernel
theorem dX5_init_35 : decode mX5_init.2.1 35 = .ok (.aload_n 0, 1) := by decide +kernel
theorem dX5_init_36 : decode mX5_init.2.1 36 = .ok (.iconst 0, 1) := by decide +kernel
theorem dX5_init_37 : decode mX5_init.2.1 37 = .ok (.putfield 24, 3) := by decide +kernel
theorem dX5_init_40 : decode mX5_init.2.1 40 = .ok (.aload_n 0, 1) := by decide +kernel
theorem dX5_init_41 : decode mX5_init.2.1 41 = .ok (.iconst 0, 1) := by decide +kernel
theorem dX5_init_42 : decode mX5_init.2.1 42 = .ok (.putfield 28, 3) := by decide +kernel
theorem dX5_init_45 : decode mX5_init.2.1 45 = .ok (.aload_n 0, 1) := by decide +kernel
theorem dX5_init_46 : decode mX5_init.2.1 46 = .ok (.iconst 0, 1) := by decide +kernel
theorem dX5_init_47 : decode mX5_init.2.1 47 = .ok (.putfield 31, 3) := by decide +kernel
theorem dX5_init_50 : decode mX5_init.2.1 50 = .ok (.aload_n 0, 1) := by decide +kernel
theorem dX5_init_51 : decode mX5_init.2.1 51 = .ok (.iconst 0, 1) := by decide +kernel
theorem dX5_init_52 : decode mX5_init.2.1 52 = .ok (.putfield 34, 3) := by decide +kernel
theorem dX5_init_55 : decode mX5_init.2.1 55 = .ok (.aload_n 0, 1) := by decide +kernel
theorem dX5_init_56 : decode mX5_init.2.1 56 = .ok (.iconst 5, 1) := by decide +kernel
theorem dX5_init_57 : decode mX5_init.2.1 57 = .ok (.newarray .int, 2) := by decide +kernel
theorem dX5_init_59 : decode mX5_init.2.1 59 = .ok (.putfield 37, 3) := by decide +kernel
theorem dX5_init_62 : decode mX5_init.2.1 62 = .ok (.aload_n 0, 1) := by decide +kernel
theorem dX5_init_63 : decode mX5_init.2.1 63 = .ok (.iconst 5, 1) := by decide +kernel
theorem dX5_init_64 : decode mX5_init.2.1 64 = .ok (.newarray .int, 2) := by decide +kernel
theorem dX5_init_66 : decode mX5_init.2.1 66 = .ok (.putfield 40, 3) := by decide +kernel
theorem dX5_init_69 : decode mX5_init.2.1 69 = .ok (.aload_n 0, 1) := by decide +kernel
theorem dX5_init_70 : decode mX5_init.2.1 70 = .ok (.iconst 0, 1) := by decide +kernel
theorem dX5_init_71 : decode mX5_init.2.1 71 = .ok (.iload_n 1, 1) := by decide +kernel
theorem dX5_init_72 : decode mX5_init.2.1 72 = .ok (.invokestatic 43, 3) := by decide +kernel
theorem dX5_init_75 : decode mX5_init.2.1 75 = .ok (.newarray .int, 2) := by decide +kernel
theorem dX5_init_77 : decode mX5_init.2.1 77 = .ok (.putfield 49, 3) := by decide +kernel
theorem dX5_init_80 : decode mX5_init.2.1 80 = .ok (.return_, 1) := by decide +kernel
abbrev mX5_holds : aM := (yX5_holds, cX5_holds, 3, (some .boolean))
theorem dX5_holds_0 : decode mX5_holds.2.1 0 = .ok (.iload_n 2, 1) := by decide +kernel
theorem dX5_holds_1 : decode mX5_holds.2.1 1 = .ok (.ifCond .lt 17, 3) := by decide +kernel
theorem dX5_holds_4 : decode mX5_holds.2.1 4 = .ok (.iload_n 2, 1) := by decide +kernel
theorem dX5_holds_5 : decode mX5_holds.2.1 5 = .ok (.aload_n 0, 1) := by decide +kernel
theorem dX5_holds_6 : decode mX5_holds.2.1 6 = .ok (.getfield 9, 3) := by decide +kernel
theorem dX5_holds_9 : decode mX5_holds.2.1 9 = .ok (.iload_n 1, 1) := by decide +kernel
theorem dX5_holds_10 : decode mX5_holds.2.1 10 = .ok (.iaload, 1) := by decide +kernel
theorem dX5_holds_11 : decode mX5_holds.2.1 11 = .ok (.if_icmp .ge 7, 3) := by decide +kernel
theorem dX5_holds_14 : decode mX5_holds.2.1 14 = .ok (.iconst 1, 1) := by decide +kernel
theorem dX5_holds_15 : decode mX5_holds.2.1 15 = .ok (.goto 4, 3) := by decide +kernel
theorem dX5_holds_18 : decode mX5_holds.2.1 18 = .ok (.iconst 0, 1) := by decide +kernel
theorem dX5_holds_19 : decode mX5_holds.2.1 19 = .ok (.ireturn, 1) := by decide +kernel
abbrev mX5_ribs : aM := (yX5_ribs, cX5_ribs, 2, (some .int))
theorem dX5_ribs_0 : decode mX5_ribs.2.1 0 = .ok (.aload_n 0, 1) := by decide +kernel
theorem dX5_ribs_1 : decode mX5_ribs.2.1 1 = .ok (.getfield 18, 3) := by decide +kernel
theorem dX5_ribs_4 : decode mX5_ribs.2.1 4 = .ok (.iconst 0, 1) := by decide +kernel
theorem dX5_ribs_5 : decode mX5_ribs.2.1 5 = .ok (.iload_n 1, 1) := by decide +kernel
theorem dX5_ribs_6 : decode mX5_ribs.2.1 6 = .ok (.iadd, 1) := by decide +kernel
theorem dX5_ribs_7 : decode mX5_ribs.2.1 7 = .ok (.iaload, 1) := by decide +kernel
theorem dX5_ribs_8 : decode mX5_ribs.2.1 8 = .ok (.ireturn, 1) := by decide +kernel
abbrev mX5_zincTold : aM := (yX5_zincTold, cX5_zincTold, 2, (some .int))
theorem dX5_zincTold_0 : decode mX5_zincTold.2.1 0 = .ok (.aload_n 0, 1) := by decide +kernel
theorem dX5_zincTold_1 : decode mX5_zincTold.2.1 1 = .ok (.getfield 21, 3) := by decide +kernel
theorem dX5_zincTold_4 : decode mX5_zincTold.2.1 4 = .ok (.iconst 0, 1) := by decide +kernel
theorem dX5_zincTold_5 : decode mX5_zincTold.2.1 5 = .ok (.iload_n 1, 1) := by decide +kernel
theorem dX5_zincTold_6 : decode mX5_zincTold.2.1 6 = .ok (.iadd, 1) := by decide +kernel
theorem dX5_zincTold_7 : decode mX5_zincTold.2.1 7 = .ok (.iaload, 1) := by decide +kernel
theorem dX5_zincTold_8 : decode mX5_zincTold.2.1 8 = .ok (.ireturn, 1) := by decide +kernel
abbrev mX5_deepTold : aM := (yX5_deepTold, cX5_deepTold, 2, (some .int))
theorem dX5_deepTold_0 : decode mX5_deepTold.2.1 0 = .ok (.aload_n 0, 1) := by decide +kernel
theorem dX5_deepTold_1 : decode mX5_deepTold.2.1 1 = .ok (.getfield 18, 3) := by decide +kernel
theorem dX5_deepTold_4 : decode mX5_deepTold.2.1 4 = .ok (.bipush 6, 2) := by decide +kernel
theorem dX5_deepTold_6 : decode mX5_deepTold.2.1 6 = .ok (.iload_n 1, 1) := by decide +kernel
theorem dX5_deepTold_7 : decode mX5_deepTold.2.1 7 = .ok (.iadd, 1) := by decide +kernel
theorem dX5_deepTold_8 : decode mX5_deepTold.2.1 8 = .ok (.iaload, 1) := by decide +kernel
theorem dX5_deepTold_9 : decode mX5_deepTold.2.1 9 = .ok (.ireturn, 1) := by decide +kernel
abbrev mX5_stuff : aM := (yX5_stuff, cX5_stuff, 2, (some .int))
theorem dX5_stuff_0 : decode mX5_stuff.2.1 0 = .ok (.aload_n 0, 1) := by decide +kernel
theorem dX5_stuff_1 : decode mX5_stuff.2.1 1 = .ok (.getfield 21, 3) := by decide +kernel
theorem dX5_stuff_4 : decode mX5_stuff.2.1 4 = .ok (.bipush 6, 2) := by decide +kernel
theorem dX5_stuff_6 : decode mX5_stuff.2.1 6 = .ok (.iload_n 1, 1) := by decide +kernel
theorem dX5_stuff_7 : decode mX5_stuff.2.1 7 = .ok (.iadd, 1) := by decide +kernel
theorem dX5_stuff_8 : decode mX5_stuff.2.1 8 = .ok (.iaload, 1) := by decide +kernel
theorem dX5_stuff_9 : decode mX5_stuff.2.1 9 = .ok (.ireturn, 1) := by decide +kernel
abbrev mX5_sin : aM := (yX5_sin, cX5_sin, 2, (some .int))
theorem dX5_sin_0 : decode mX5_sin.2.1 0 = .ok (.aload_n 0, 1) := by decide +kernel
theorem dX5_sin_1 : decode mX5_sin.2.1 1 = .ok (.getfield 18, 3) := by decide +kernel
theorem dX5_sin_4 : decode mX5_sin.2.1 4 = .ok (.bipush 12, 2) := by decide +kernel
theorem dX5_sin_6 : decode mX5_sin.2.1 6 = .ok (.iload_n 1, 1) := by decide +kernel
theorem dX5_sin_7 : decode mX5_sin.2.1 7 = .ok (.iadd, 1) := by decide +kernel
theorem dX5_sin_8 : decode mX5_sin.2.1 8 = .ok (.iaload, 1) := by decide +kernel
theorem dX5_sin_9 : decode mX5_sin.2.1 9 = .ok (.ireturn, 1) := by decide +kernel
abbrev mX5_ear : aM := (yX5_ear, cX5_ear, 2, (some .int))
theorem dX5_ear_0 : decode mX5_ear.2.1 0 = .ok (.aload_n 0, 1) := by decide +kernel
theorem dX5_ear_1 : decode mX5_ear.2.1 1 = .ok (.getfield 21, 3) := by decide +kernel
theorem dX5_ear_4 : decode mX5_ear.2.1 4 = .ok (.bipush 12, 2) := by decide +kernel
theorem dX5_ear_6 : decode mX5_ear.2.1 6 = .ok (.iload_n 1, 1) := by decide +kernel
theorem dX5_ear_7 : decode mX5_ear.2.1 7 = .ok (.iadd, 1) := by decide +kernel
theorem dX5_ear_8 : decode mX5_ear.2.1 8 = .ok (.iaload, 1) := by decide +kernel
theorem dX5_ear_9 : decode mX5_ear.2.1 9 = .ok (.ireturn, 1) := by decide +kernel
abbrev mX5_bears : aM := (yX5_bears, cX5_bears, 4, (some .boolean))
theorem dX5_bears_0 : decode mX5_bears.2.1 0 = .ok (.iconst 0, 1) := by decide +kernel
theorem dX5_bears_1 : decode mX5_bears.2.1 1 = .ok (.istore_n 2, 1) := by decide +kernel
theorem dX5_bears_2 : decode mX5_bears.2.1 2 = .ok (.iload_n 2, 1) := by decide +kernel
theorem dX5_bears_3 : decode mX5_bears.2.1 3 = .ok (.iconst 3, 1) := by decide +kernel
theorem dX5_bears_4 : decode mX5_bears.2.1 4 = .ok (.if_icmp .ge 44, 3) := by decide +kernel
theorem dX5_bears_7 : decode mX5_bears.2.1 7 = .ok (.iconst 0, 1) := by decide +kernel
theorem dX5_bears_8 : decode mX5_bears.2.1 8 = .ok (.istore_n 3, 1) := by decide +kernel
theorem dX5_bears_9 : decode mX5_bears.2.1 9 = .ok (.iload_n 3, 1) := by decide +kernel
theorem dX5_bears_10 : decode mX5_bears.2.1 10 = .ok (.aload_n 0, 1) := by decide +kernel
theorem dX5_bears_11 : decode mX5_bears.2.1 11 = .ok (.getfield 9, 3) := by decide +kernel
theorem dX5_bears_14 : decode mX5_bears.2.1 14 = .ok (.iload_n 2, 1) := by decide +kernel
theorem dX5_bears_15 : decode mX5_bears.2.1 15 = .ok (.iaload, 1) := by decide +kernel
theorem dX5_bears_16 : decode mX5_bears.2.1 16 = .ok (.if_icmp .ge 26, 3) := by decide +kernel
theorem dX5_bears_19 : decode mX5_bears.2.1 19 = .ok (.aload_n 0, 1) := by decide +kernel
theorem dX5_bears_20 : decode mX5_bears.2.1 20 = .ok (.getfield 15, 3) := by decide +kernel
theorem dX5_bears_23 : decode mX5_bears.2.1 23 = .ok (.iload_n 2, 1) := by decide +kernel
theorem dX5_bears_24 : decode mX5_bears.2.1 24 = .ok (.bipush 6, 2) := by decide +kernel
theorem dX5_bears_26 : decode mX5_bears.2.1 26 = .ok (.imul, 1) := by decide +kernel
theorem dX5_bears_27 : decode mX5_bears.2.1 27 = .ok (.iload_n 3, 1) := by decide +kernel
theorem dX5_bears_28 : decode mX5_bears.2.1 28 = .ok (.iadd, 1) := by decide +kernel
theorem dX5_bears_29 : decode mX5_bears.2.1 29 = .ok (.iaload, 1) := by decide +kernel
theorem dX5_bears_30 : decode mX5_bears.2.1 30 = .ok (.iload_n 1, 1) := by decide +kernel
theorem dX5_bears_31 : decode mX5_bears.2.1 31 = .ok (.if_icmp .ne 5, 3) := by decide +kernel
theorem dX5_bears_34 : decode mX5_bears.2.1 34 = .ok (.iconst 1, 1) := by decide +kernel
theorem dX5_bears_35 : decode mX5_bears.2.1 35 = .ok (.ireturn, 1) := by decide +kernel
theorem dX5_bears_36 : decode mX5_bears.2.1 36 = .ok (.iinc 3 1, 3) := by decide +kernel
theorem dX5_bears_39 : decode mX5_bears.2.1 39 = .ok (.goto (-30), 3) := by decide +kernel
theorem dX5_bears_42 : decode mX5_bears.2.1 42 = .ok (.iinc 2 1, 3) := by decide +kernel
theorem dX5_bears_45 : decode mX5_bears.2.1 45 = .ok (.goto (-43), 3) := by decide +kernel
theorem dX5_bears_48 : decode mX5_bears.2.1 48 = .ok (.iconst 0, 1) := by decide +kernel
theorem dX5_bears_49 : decode mX5_bears.2.1 49 = .ok (.ireturn, 1) := by decide +kernel
abbrev mX5_addThing : aM := (yX5_addThing, cX5_addThing, 6, none)
theorem dX5_addThing_0 : decode mX5_addThing.2.1 0 = .ok (.aload_n 0, 1) := by decide +kernel
theorem dX5_addThing_1 : decode mX5_addThing.2.1 1 = .ok (.getfield 9, 3) := by decide +kernel
theorem dX5_addThing_4 : decode mX5_addThing.2.1 4 = .ok (.iload_n 1, 1) := by decide +kernel
theorem dX5_addThing_5 : decode mX5_addThing.2.1 5 = .ok (.iaload, 1) := by decide +kernel
theorem dX5_addThing_6 : decode mX5_addThing.2.1 6 = .ok (.bipush 6, 2) := by decide +kernel
theorem dX5_addThing_8 : decode mX5_addThing.2.1 8 = .ok (.if_icmp .lt 4, 3) := by decide +kernel
theorem dX5_addThing_11 : decode mX5_addThing.2.1 11 = .ok (.return_, 1) := by decide +kernel
theorem dX5_addThing_12 : decode mX5_addThing.2.1 12 = .ok (.iload_n 1, 1) := by decide +kernel
theorem dX5_addThing_13 : decode mX5_addThing.2.1 13 = .ok (.bipush 6, 2) := by decide +kernel
theorem dX5_addThing_15 : decode mX5_addThing.2.1 15 = .ok (.imul, 1) := by decide +kernel
theorem dX5_addThing_16 : decode mX5_addThing.2.1 16 = .ok (.aload_n 0, 1) := by decide +kernel
theorem dX5_addThing_17 : decode mX5_addThing.2.1 17 = .ok (.getfield 9, 3) := by decide +kernel
theorem dX5_addThing_20 : decode mX5_addThing.2.1 20 = .ok (.iload_n 1, 1) := by decide +kernel
theorem dX5_addThing_21 : decode mX5_addThing.2.1 21 = .ok (.iaload, 1) := by decide +kernel
theorem dX5_addThing_22 : decode mX5_addThing.2.1 22 = .ok (.iadd, 1) := by decide +kernel
theorem dX5_addThing_23 : decode mX5_addThing.2.1 23 = .ok (.istore 5, 2) := by decide +kernel
theorem dX5_addThing_25 : decode mX5_addThing.2.1 25 = .ok (.aload_n 0, 1) := by decide +kernel
theorem dX5_addThing_26 : decode mX5_addThing.2.1 26 = .ok (.getfield 15, 3) := by decide +kernel
theorem dX5_addThing_29 : decode mX5_addThing.2.1 29 = .ok (.iload 5, 2) := by decide +kernel
theorem dX5_addThing_31 : decode mX5_addThing.2.1 31 = .ok (.iload_n 2, 1) := by decide +kernel
theorem dX5_addThing_32 : decode mX5_addThing.2.1 32 = .ok (.iastore, 1) := by decide +kernel
theorem dX5_addThing_33 : decode mX5_addThing.2.1 33 = .ok (.aload_n 0, 1) := by decide +kernel
theorem dX5_addThing_34 : decode mX5_addThing.2.1 34 = .ok (.getfield 18, 3) := by decide +kernel
theorem dX5_addThing_37 : decode mX5_addThing.2.1 37 = .ok (.iload 5, 2) := by decide +kernel
theorem dX5_addThing_39 : decode mX5_addThing.2.1 39 = .ok (.iload_n 3, 1) := by decide +kernel
theorem dX5_addThing_40 : decode mX5_addThing.2.1 40 = .ok (.iastore, 1) := by decide +kernel
theorem dX5_addThing_41 : decode mX5_addThing.2.1 41 = .ok (.aload_n 0, 1) := by decide +kernel
theorem dX5_addThing_42 : decode mX5_addThing.2.1 42 = .ok (.getfield 21, 3) := by decide +kernel
theorem dX5_addThing_45 : decode mX5_addThing.2.1 45 = .ok (.iload 5, 2) := by decide +kernel
theorem dX5_addThing_47 : decode mX5_addThing.2.1 47 = .ok (.iload 4, 2) := by decide +kernel
theorem dX5_addThing_49 : decode mX5_addThing.2.1 49 = .ok (.iastore, 1) := by decide +kernel
theorem dX5_addThing_50 : decode mX5_addThing.2.1 50 = .ok (.aload_n 0, 1) := by decide +kernel
theorem dX5_addThing_51 : decode mX5_addThing.2.1 51 = .ok (.getfield 9, 3) := by decide +kernel
theorem dX5_addThing_54 : decode mX5_addThing.2.1 54 = .ok (.iload_n 1, 1) := by decide +kernel
theorem dX5_addThing_55 : decode mX5_addThing.2.1 55 = .ok (.dup2, 1) := by decide +kernel
theorem dX5_addThing_56 : decode mX5_addThing.2.1 56 = .ok (.iaload, 1) := by decide +kernel
theorem dX5_addThing_57 : decode mX5_addThing.2.1 57 = .ok (.iconst 1, 1) := by decide +kernel
theorem dX5_addThing_58 : decode mX5_addThing.2.1 58 = .ok (.iadd, 1) := by decide +kernel
theorem dX5_addThing_59 : decode mX5_addThing.2.1 59 = .ok (.iastore, 1) := by decide +kernel
theorem dX5_addThing_60 : decode mX5_addThing.2.1 60 = .ok (.return_, 1) := by decide +kernel
abbrev mX5_isRule : aM := (yX5_isRule, cX5_isRule, 1, (some .boolean))
theorem dX5_isRule_0 : decode mX5_isRule.2.1 0 = .ok (.iload_n 0, 1) := by decide +kernel
theorem dX5_isRule_1 : decode mX5_isRule.2.1 1 = .ok (.bipush 9, 2) := by decide +kernel
theorem dX5_isRule_3 : decode mX5_isRule.2.1 3 = .ok (.if_icmp .lt 13, 3) := by decide +kernel
theorem dX5_isRule_6 : decode mX5_isRule.2.1 6 = .ok (.iload_n 0, 1) := by decide +kernel
theorem dX5_isRule_7 : decode mX5_isRule.2.1 7 = .ok (.bipush 13, 2) := by decide +kernel
theorem dX5_isRule_9 : decode mX5_isRule.2.1 9 = .ok (.if_icmp .gt 7, 3) := by decide +kernel
theorem dX5_isRule_12 : decode mX5_isRule.2.1 12 = .ok (.iconst 1, 1) := by decide +kernel
theorem dX5_isRule_13 : decode mX5_isRule.2.1 13 = .ok (.goto 4, 3) := by decide +kernel
theorem dX5_isRule_16 : decode mX5_isRule.2.1 16 = .ok (.iconst 0, 1) := by decide +kernel
theorem dX5_isRule_17 : decode mX5_isRule.2.1 17 = .ok (.ireturn, 1) := by decide +kernel
abbrev mX5_beginRule : aM := (yX5_beginRule, cX5_beginRule, 2, none)
theorem dX5_beginRule_0 : decode mX5_beginRule.2.1 0 = .ok (.iload_n 1, 1) := by decide +kernel
theorem dX5_beginRule_1 : decode mX5_beginRule.2.1 1 = .ok (.invokestatic 52, 3) := by decide +kernel
theorem dX5_beginRule_4 : decode mX5_beginRule.2.1 4 = .ok (.ifCond .eq 16, 3) := by decide +kernel
theorem dX5_beginRule_7 : decode mX5_beginRule.2.1 7 = .ok (.aload_n 0, 1) := by decide +kernel
theorem dX5_beginRule_8 : decode mX5_beginRule.2.1 8 = .ok (.getfield 37, 3) := by decide +kernel
theorem dX5_beginRule_11 : decode mX5_beginRule.2.1 11 = .ok (.iload_n 1, 1) := by decide +kernel
theorem dX5_beginRule_12 : decode mX5_beginRule.2.1 12 = .ok (.bipush 9, 2) := by decide +kernel
theorem dX5_beginRule_14 : decode mX5_beginRule.2.1 14 = .ok (.isub, 1) := by decide +kernel
theorem dX5_beginRule_15 : decode mX5_beginRule.2.1 15 = .ok (.aload_n 0, 1) := by decide +kernel
theorem dX5_beginRule_16 : decode mX5_beginRule.2.1 16 = .ok (.getfield 34, 3) := by decide +kernel
theorem dX5_beginRule_19 : decode mX5_beginRule.2.1 19 = .ok (.iastore, 1) := by decide +kernel
theorem dX5_beginRule_20 : decode mX5_beginRule.2.1 20 = .ok (.return_, 1) := by decide +kernel
abbrev mX5_endRule : aM := (yX5_endRule, cX5_endRule, 2, none)
theorem dX5_endRule_0 : decode mX5_endRule.2.1 0 = .ok (.iload_n 1, 1) := by decide +kernel
theorem dX5_endRule_1 : decode mX5_endRule.2.1 1 = .ok (.invokestatic 52, 3) := by decide +kernel
theorem dX5_endRule_4 : decode mX5_endRule.2.1 4 = .ok (.ifCond .eq 16, 3) := by decide +kernel
theorem dX5_endRule_7 : decode mX5_endRule.2.1 7 = .ok (.aload_n 0, 1) := by decide +kernel
theorem dX5_endRule_8 : decode mX5_endRule.2.1 8 = .ok (.getfield 40, 3) := by decide +kernel
theorem dX5_endRule_11 : decode mX5_endRule.2.1 11 = .ok (.iload_n 1, 1) := by decide +kernel
theorem dX5_endRule_12 : decode mX5_endRule.2.1 12 = .ok (.bipush 9, 2) := by decide +kernel
theorem dX5_endRule_14 : decode mX5_endRule.2.1 14 = .ok (.isub, 1) := by decide +kernel
theorem dX5_endRule_15 : decode mX5_endRule.2.1 15 = .ok (.aload_n 0, 1) := by decide +kernel
theorem dX5_endRule_16 : decode mX5_endRule.2.1 16 = .ok (.getfield 34, 3) := by decide +kernel
theorem dX5_endRule_19 : decode mX5_endRule.2.1 19 = .ok (.iastore, 1) := by decide +kernel
theorem dX5_endRule_20 : decode mX5_endRule.2.1 20 = .ok (.return_, 1) := by decide +kernel
abbrev mX5_hasRule : aM := (yX5_hasRule, cX5_hasRule, 2, (some .boolean))
theorem dX5_hasRule_0 : decode mX5_hasRule.2.1 0 = .ok (.iload_n 1, 1) := by decide +kernel
theorem dX5_hasRule_1 : decode mX5_hasRule.2.1 1 = .ok (.invokestatic 52, 3) := by decide +kernel
theorem dX5_hasRule_4 : decode mX5_hasRule.2.1 4 = .ok (.ifCond .eq 28, 3) := by decide +kernel
theorem dX5_hasRule_7 : decode mX5_hasRule.2.1 7 = .ok (.aload_n 0, 1) := by decide +kernel
theorem dX5_hasRule_8 : decode mX5_hasRule.2.1 8 = .ok (.getfield 40, 3) := by decide +kernel
theorem dX5_hasRule_11 : decode mX5_hasRule.2.1 11 = .ok (.iload_n 1, 1) := by decide +kernel
theorem dX5_hasRule_12 : decode mX5_hasRule.2.1 12 = .ok (.bipush 9, 2) := by decide +kernel
theorem dX5_hasRule_14 : decode mX5_hasRule.2.1 14 = .ok (.isub, 1) := by decide +kernel
theorem dX5_hasRule_15 : decode mX5_hasRule.2.1 15 = .ok (.iaload, 1) := by decide +kernel
theorem dX5_hasRule_16 : decode mX5_hasRule.2.1 16 = .ok (.aload_n 0, 1) := by decide +kernel
theorem dX5_hasRule_17 : decode mX5_hasRule.2.1 17 = .ok (.getfield 37, 3) := by decide +kernel
theorem dX5_hasRule_20 : decode mX5_hasRule.2.1 20 = .ok (.iload_n 1, 1) := by decide +kernel
theorem dX5_hasRule_21 : decode mX5_hasRule.2.1 21 = .ok (.bipush 9, 2) := by decide +kernel
theorem dX5_hasRule_23 : decode mX5_hasRule.2.1 23 = .ok (.isub, 1) := by decide +kernel
theorem dX5_hasRule_24 : decode mX5_hasRule.2.1 24 = .ok (.iaload, 1) := by decide +kernel
theorem dX5_hasRule_25 : decode mX5_hasRule.2.1 25 = .ok (.if_icmp .le 7, 3) := by decide +kernel
theorem dX5_hasRule_28 : decode mX5_hasRule.2.1 28 = .ok (.iconst 1, 1) := by decide +kernel
theorem dX5_hasRule_29 : decode mX5_hasRule.2.1 29 = .ok (.goto 4, 3) := by decide +kernel
theorem dX5_hasRule_32 : decode mX5_hasRule.2.1 32 = .ok (.iconst 0, 1) := by decide +kernel
theorem dX5_hasRule_33 : decode mX5_hasRule.2.1 33 = .ok (.ireturn, 1) := by decide +kernel
abbrev mX5_addStep : aM := (yX5_addStep, cX5_addStep, 3, none)
theorem dX5_addStep_0 : decode mX5_addStep.2.1 0 = .ok (.aload_n 0, 1) := by decide +kernel
theorem dX5_addStep_1 : decode mX5_addStep.2.1 1 = .ok (.getfield 34, 3) := by decide +kernel
theorem dX5_addStep_4 : decode mX5_addStep.2.1 4 = .ok (.aload_n 0, 1) := by decide +kernel
theorem dX5_addStep_5 : decode mX5_addStep.2.1 5 = .ok (.getfield 49, 3) := by decide +kernel
theorem dX5_addStep_8 : decode mX5_addStep.2.1 8 = .ok (.arraylength, 1) := by decide +kernel
theorem dX5_addStep_9 : decode mX5_addStep.2.1 9 = .ok (.if_icmp .ge 28, 3) := by decide +kernel
theorem dX5_addStep_12 : decode mX5_addStep.2.1 12 = .ok (.aload_n 0, 1) := by decide +kernel
theorem dX5_addStep_13 : decode mX5_addStep.2.1 13 = .ok (.getfield 49, 3) := by decide +kernel
theorem dX5_addStep_16 : decode mX5_addStep.2.1 16 = .ok (.aload_n 0, 1) := by decide +kernel
theorem dX5_addStep_17 : decode mX5_addStep.2.1 17 = .ok (.getfield 34, 3) := by decide +kernel
theorem dX5_addStep_20 : decode mX5_addStep.2.1 20 = .ok (.iload_n 1, 1) := by decide +kernel
theorem dX5_addStep_21 : decode mX5_addStep.2.1 21 = .ok (.bipush 14, 2) := by decide +kernel
theorem dX5_addStep_23 : decode mX5_addStep.2.1 23 = .ok (.ishl, 1) := by decide +kernel
theorem dX5_addStep_24 : decode mX5_addStep.2.1 24 = .ok (.iload_n 2, 1) := by decide +kernel
theorem dX5_addStep_25 : decode mX5_addStep.2.1 25 = .ok (.ior, 1) := by decide +kernel
theorem dX5_addStep_26 : decode mX5_addStep.2.1 26 = .ok (.iastore, 1) := by decide +kernel
theorem dX5_addStep_27 : decode mX5_addStep.2.1 27 = .ok (.aload_n 0, 1) := by decide +kernel
theorem dX5_addStep_28 : decode mX5_addStep.2.1 28 = .ok (.dup, 1) := by decide +kernel
theorem dX5_addStep_29 : decode mX5_addStep.2.1 29 = .ok (.getfield 34, 3) := by decide +kernel
theorem dX5_addStep_32 : decode mX5_addStep.2.1 32 = .ok (.iconst 1, 1) := by decide +kernel
theorem dX5_addStep_33 : decode mX5_addStep.2.1 33 = .ok (.iadd, 1) := by decide +kernel
theorem dX5_addStep_34 : decode mX5_addStep.2.1 34 = .ok (.putfield 34, 3) := by decide +kernel
theorem dX5_addStep_37 : decode mX5_addStep.2.1 37 = .ok (.return_, 1) := by decide +kernel
abbrev mX6_init : aM := (yX6_init, cX6_init, 2, none)
theorem dX6_init_0 : decode mX6_init.2.1 0 = .ok (.aload_n 0, 1) := by decide +kernel
theorem dX6_init_1 : decode mX6_init.2.1 1 = .ok (.invokespecial 3, 3) := by decide +kernel
theorem dX6_init_4 : decode mX6_init.2.1 4 = .ok (.aload_n 0, 1) := by decide +kernel
theorem dX6_init_5 : decode mX6_init.2.1 5 = .ok (.bipush 20, 2) := by decide +kernel
theorem dX6_init_7 : decode mX6_init.2.1 7 = .ok (.newarray .int, 2) := by decide +kernel
theorem dX6_init_9 : decode mX6_init.2.1 9 = .ok (.putfield 9, 3) := by decide +kernel
theorem dX6_init_12 : decode mX6_init.2.1 12 = .ok (.aload_n 0, 1) := by decide +kernel
theorem dX6_init_13 : decode mX6_init.2.1 13 = .ok (.bipush 64, 2) := by decide +kernel
theorem dX6_init_15 : decode mX6_init.2.1 15 = .ok (.newarray .int, 2) := by decide +kernel
theorem dX6_init_17 : decode mX6_init.2.1 17 = .ok (.putfield 15, 3) := by decide +kernel
theorem dX6_init_20 : decode mX6_init.2.1 20 = .ok (.aload_n 0, 1) := by decide +kernel
theorem dX6_init_21 : decode mX6_init.2.1 21 = .ok (.iconst (-1), 1) := by decide +kernel
theorem dX6_init_22 : decode mX6_init.2.1 22 = .ok (.putfield 18, 3) := by decide +kernel
theorem dX6_init_25 : decode mX6_init.2.1 25 = .ok (.aload_n 0, 1) := by decide +kernel
theorem dX6_init_26 : decode mX6_init.2.1 26 = .ok (.iconst (-1), 1) := by decide +kernel
theorem dX6_init_27 : decode mX6_init.2.1 27 = .ok (.putfield 22, 3) := by decide +kernel
theorem dX6_init_30 : decode mX6_init.2.1 30 = .ok (.aload_n 0, 1) := by decide +kernel
theorem dX6_init_31 : decode mX6_init.2.1 31 = .ok (.iconst 0, 1) := by decide +kernel
theorem dX6_init_32 : decode mX6_init.2.1 32 = .ok (.putfield 25, 3) := by decide +kernel
theorem dX6_init_35 : decode mX6_init.2.1 35 = .ok (.aload_n 0, 1) := by decide +kernel
theorem dX6_init_36 : decode mX6_init.2.1 36 = .ok (.iconst 0, 1) := by decide +kernel
theorem dX6_init_37 : decode mX6_init.2.1 37 = .ok (.putfield 28, 3) := by decide +kernel
theorem dX6_init_40 : decode mX6_init.2.1 40 = .ok (.aload_n 0, 1) := by decide +kernel
theorem dX6_init_41 : decode mX6_init.2.1 41 = .ok (.iconst 0, 1) := by decide +kernel
theorem dX6_init_42 : decode mX6_init.2.1 42 = .ok (.putfield 31, 3) := by decide +kernel
theorem dX6_init_45 : decode mX6_init.2.1 45 = .ok (.aload_n 0, 1) := by decide +kernel
theorem dX6_init_46 : decode mX6_init.2.1 46 = .ok (.iconst 0, 1) := by decide +kernel
theorem dX6_init_47 : decode mX6_init.2.1 47 = .ok (.putfield 34, 3) := by decide +kernel
theorem dX6_init_50 : decode mX6_init.2.1 50 = .ok (.aload_n 0, 1) := by decide +kernel
theorem dX6_init_51 : decode mX6_init.2.1 51 = .ok (.aload_n 1, 1) := by decide +kernel
theorem dX6_init_52 : decode mX6_init.2.1 52 = .ok (.putfield 37, 3) := by decide +kernel
theorem dX6_init_55 : decode mX6_init.2.1 55 = .ok (.return_, 1) := by decide +kernel
abbrev mX6_lay : aM := (yX6_lay, cX6_lay, 4, none)
theorem dX6_lay_0 : decode mX6_lay.2.1 0 = .ok (.aload_n 0, 1) := by decide +kernel
theorem dX6_lay_1 : decode mX6_lay.2.1 1 = .ok (.iload_n 2, 1) := by decide +kernel
theorem dX6_lay_2 : decode mX6_lay.2.1 2 = .ok (.putfield 18, 3) := by decide +kernel
theorem dX6_lay_5 : decode mX6_lay.2.1 5 = .ok (.aload_n 0, 1) := by decide +kernel
theorem dX6_lay_6 : decode mX6_lay.2.1 6 = .ok (.iload_n 3, 1) := by decide +kernel
theorem dX6_lay_7 : decode mX6_lay.2.1 7 = .ok (.putfield 22, 3) := by decide +kernel
theorem dX6_lay_10 : decode mX6_lay.2.1 10 = .ok (.aload_n 0, 1) := by decide +kernel
theorem dX6_lay_11 : decode mX6_lay.2.1 11 = .ok (.aload_n 1, 1) := by decide +kernel
theorem dX6_lay_12 : decode mX6_lay.2.1 12 = .ok (.getfield 41, 3) := by decide +kernel
theorem dX6_lay_15 : decode mX6_lay.2.1 15 = .ok (.iload_n 2, 1) := by decide +kernel
theorem dX6_lay_16 : decode mX6_lay.2.1 16 = .ok (.iaload, 1) := by decide +kernel
theorem dX6_lay_17 : decode mX6_lay.2.1 17 = .ok (.putfield 25, 3) := by decide +kernel
theorem dX6_lay_20 : decode mX6_lay.2.1 20 = .ok (.aload_n 0, 1) := by decide +kernel
theorem dX6_lay_21 : decode mX6_lay.2.1 21 = .ok (.aload_n 1, 1) := by decide +kernel
theorem dX6_lay_22 : decode mX6_lay.2.1 22 = .ok (.getfield 45, 3) := by decide +kernel
theorem dX6_lay_25 : decode mX6_lay.2.1 25 = .ok (.iload_n 3, 1) := by decide +kernel
theorem dX6_lay_26 : decode mX6_lay.2.1 26 = .ok (.iaload, 1) := by decide +kernel
theorem dX6_lay_27 : decode mX6_lay.2.1 27 = .ok (.putfield 28, 3) := by decide +kernel
theorem dX6_lay_30 : decode mX6_lay.2.1 30 = .ok (.aload_n 0, 1) := by decide +kernel
theorem dX6_lay_31 : decode mX6_lay.2.1 31 = .ok (.iconst 0, 1) := by decide +kernel
theorem dX6_lay_32 : decode mX6_lay.2.1 32 = .ok (.putfield 31, 3) := by decide +kernel
theorem dX6_lay_35 : decode mX6_lay.2.1 35 = .ok (.aload_n 0, 1) := by decide +kernel
theorem dX6_lay_36 : decode mX6_lay.2.1 36 = .ok (.iconst 0, 1) := by decide +kernel
theorem dX6_lay_37 : decode mX6_lay.2.1 37 = .ok (.putfield 34, 3) := by decide +kernel
theorem dX6_lay_40 : decode mX6_lay.2.1 40 = .ok (.aload_n 0, 1) := by decide +kernel
theorem dX6_lay_41 : decode mX6_lay.2.1 41 = .ok (.getfield 9, 3) := by decide +kernel
theorem dX6_lay_44 : decode mX6_lay.2.1 44 = .ok (.iconst 1, 1) := by decide +kernel
theorem dX6_lay_45 : decode mX6_lay.2.1 45 = .ok (.aload_n 0, 1) := by decide +kernel
theorem dX6_lay_46 : decode mX6_lay.2.1 46 = .ok (.getfield 37, 3) := by decide +kernel
theorem dX6_lay_49 : decode mX6_lay.2.1 49 = .ok (.iload_n 2, 1) := by decide +kernel
theorem dX6_lay_50 : decode mX6_lay.2.1 50 = .ok (.invokevirtual 47, 3) := by decide +kernel
theorem dX6_lay_53 : decode mX6_lay.2.1 53 = .ok (.iastore, 1) := by decide +kernel
theorem dX6_lay_54 : decode mX6_lay.2.1 54 = .ok (.aload_n 0, 1) := by decide +kernel
theorem dX6_lay_55 : decode mX6_lay.2.1 55 = .ok (.getfield 9, 3) := by decide +kernel
theorem dX6_lay_58 : decode mX6_lay.2.1 58 = .ok (.iconst 5, 1) := by decide +kernel
theorem dX6_lay_59 : decode mX6_lay.2.1 59 = .ok (.aload_n 0, 1) := by decide +kernel
theorem dX6_lay_60 : decode mX6_lay.2.1 60 = .ok (.getfield 37, 3) := by decide +kernel
theorem dX6_lay_63 : decode mX6_lay.2.1 63 = .ok (.iload_n 3, 1) := by decide +kernel
theorem dX6_lay_64 : decode mX6_lay.2.1 64 = .ok (.invokevirtual 53, 3) := by decide +kernel
theorem dX6_lay_67 : decode mX6_lay.2.1 67 = .ok (.iastore, 1) := by decide +kernel
theorem dX6_lay_68 : decode mX6_lay.2.1 68 = .ok (.aload_n 0, 1) := by decide +kernel
theorem dX6_lay_69 : decode mX6_lay.2.1 69 = .ok (.getfield 9, 3) := by decide +kernel
theorem dX6_lay_72 : decode mX6_lay.2.1 72 = .ok (.bipush 14, 2) := by decide +kernel
theorem dX6_lay_74 : decode mX6_lay.2.1 74 = .ok (.aload_n 1, 1) := by decide +kernel
theorem dX6_lay_75 : decode mX6_lay.2.1 75 = .ok (.getfield 56, 3) := by decide +kernel
theorem dX6_lay_78 : decode mX6_lay.2.1 78 = .ok (.iastore, 1) := by decide +kernel
theorem dX6_lay_79 : decode mX6_lay.2.1 79 = .ok (.aload_n 0, 1) := by decide +kernel
theorem dX6_lay_80 : decode mX6_lay.2.1 80 = .ok (.getfield 9, 3) := by decide +kernel
theorem dX6_lay_83 : decode mX6_lay.2.1 83 = .ok (.bipush 16, 2) := by decide +kernel
theorem dX6_lay_85 : decode mX6_lay.2.1 85 = .ok (.aload_n 1, 1) := by decide +kernel
theorem dX6_lay_86 : decode mX6_lay.2.1 86 = .ok (.getfield 59, 3) := by decide +kernel
theorem dX6_lay_89 : decode mX6_lay.2.1 89 = .ok (.iastore, 1) := by decide +kernel
theorem dX6_lay_90 : decode mX6_lay.2.1 90 = .ok (.return_, 1) := by decide +kernel
abbrev mX6_rub : aM := (yX6_rub, cX6_rub, 5, none)
theorem dX6_rub_0 : decode mX6_rub.2.1 0 = .ok (.iconst 0, 1) := by decide +kernel
theorem dX6_rub_1 : decode mX6_rub.2.1 1 = .ok (.istore_n 2, 1) := by decide +kernel
theorem dX6_rub_2 : decode mX6_rub.2.1 2 = .ok (.iload_n 2, 1) := by decide +kernel
theorem dX6_rub_3 : decode mX6_rub.2.1 3 = .ok (.iload_n 1, 1) := by decide +kernel
theorem dX6_rub_4 : decode mX6_rub.2.1 4 = .ok (.if_icmp .ge 148, 3) := by decide +kernel
theorem dX6_rub_7 : decode mX6_rub.2.1 7 = .ok (.aload_n 0, 1) := by decide +kernel
theorem dX6_rub_8 : decode mX6_rub.2.1 8 = .ok (.getfield 28, 3) := by decide +kernel
theorem dX6_rub_11 : decode mX6_rub.2.1 11 = .ok (.ifCond .le 141, 3) := by decide +kernel
theorem dX6_rub_14 : decode mX6_rub.2.1 14 = .ok (.aload_n 0, 1) := by decide +kernel
theorem dX6_rub_15 : decode mX6_rub.2.1 15 = .ok (.dup, 1) := by decide +kernel
theorem dX6_rub_16 : decode mX6_rub.2.1 16 = .ok (.getfield 31, 3) := by decide +kernel
theorem dX6_rub_19 : decode mX6_rub.2.1 19 = .ok (.iconst 1, 1) := by decide +kernel
theorem dX6_rub_20 : decode mX6_rub.2.1 20 = .ok (.iadd, 1) := by decide +kernel
theorem dX6_rub_21 : decode mX6_rub.2.1 21 = .ok (.putfield 31, 3) := by decide +kernel
theorem dX6_rub_24 : decode mX6_rub.2.1 24 = .ok (.aload_n 0, 1) := by decide +kernel
theorem dX6_rub_25 : decode mX6_rub.2.1 25 = .ok (.getfield 9, 3) := by decide +kernel
theorem dX6_rub_28 : decode mX6_rub.2.1 28 = .ok (.iconst 2, 1) := by decide +kernel
theorem dX6_rub_29 : decode mX6_rub.2.1 29 = .ok (.aload_n 0, 1) := by decide +kernel
theorem dX6_rub_30 : decode mX6_rub.2.1 30 = .ok (.getfield 25, 3) := by decide +kernel
theorem dX6_rub_33 : decode mX6_rub.2.1 33 = .ok (.iastore, 1) := by decide +kernel
theorem dX6_rub_34 : decode mX6_rub.2.1 34 = .ok (.aload_n 0, 1) := by decide +kernel
theorem dX6_rub_35 : decode mX6_rub.2.1 35 = .ok (.getfield 9, 3) := by decide +kernel
theorem dX6_rub_38 : decode mX6_rub.2.1 38 = .ok (.iconst 4, 1) := by decide +kernel
theorem dX6_rub_39 : decode mX6_rub.2.1 39 = .ok (.aload_n 0, 1) := by decide +kernel
theorem dX6_rub_40 : decode mX6_rub.2.1 40 = .ok (.getfield 28, 3) := by decide +kernel
theorem dX6_rub_43 : decode mX6_rub.2.1 43 = .ok (.iastore, 1) := by decide +kernel
theorem dX6_rub_44 : decode mX6_rub.2.1 44 = .ok (.aload_n 0, 1) := by decide +kernel
theorem dX6_rub_45 : decode mX6_rub.2.1 45 = .ok (.getfield 9, 3) := by decide +kernel
theorem dX6_rub_48 : decode mX6_rub.2.1 48 = .ok (.bipush 17, 2) := by decide +kernel
theorem dX6_rub_50 : decode mX6_rub.2.1 50 = .ok (.aload_n 0, 1) := by decide +kernel
theorem dX6_rub_51 : decode mX6_rub.2.1 51 = .ok (.getfield 31, 3) := by decide +kernel
theorem dX6_rub_54 : decode mX6_rub.2.1 54 = .ok (.iastore, 1) := by decide +kernel
theorem dX6_rub_55 : decode mX6_rub.2.1 55 = .ok (.aload_n 0, 1) := by decide +kernel
theorem dX6_rub_56 : decode mX6_rub.2.1 56 = .ok (.getfield 9, 3) := by decide +kernel
theorem dX6_rub_59 : decode mX6_rub.2.1 59 = .ok (.bipush 18, 2) := by decide +kernel
theorem dX6_rub_61 : decode mX6_rub.2.1 61 = .ok (.aload_n 0, 1) := by decide +kernel
theorem dX6_rub_62 : decode mX6_rub.2.1 62 = .ok (.getfield 25, 3) := by decide +kernel
theorem dX6_rub_65 : decode mX6_rub.2.1 65 = .ok (.ifCond .ne 7, 3) := by decide +kernel
theorem dX6_rub_68 : decode mX6_rub.2.1 68 = .ok (.iconst 1, 1) := by decide +kernel
theorem dX6_rub_69 : decode mX6_rub.2.1 69 = .ok (.goto 4, 3) := by decide +kernel
theorem dX6_rub_72 : decode mX6_rub.2.1 72 = .ok (.iconst 0, 1) := by decide +kernel
theorem dX6_rub_73 : decode mX6_rub.2.1 73 = .ok (.iastore, 1) := by decide +kernel
theorem dX6_rub_74 : decode mX6_rub.2.1 74 = .ok (.aload_n 0, 1) := by decide +kernel
theorem dX6_rub_75 : decode mX6_rub.2.1 75 = .ok (.getfield 28, 3) := by decide +kernel
theorem dX6_rub_78 : decode mX6_rub.2.1 78 = .ok (.iconst 0, 1) := by decide +kernel
theorem dX6_rub_79 : decode mX6_rub.2.1 79 = .ok (.aload_n 0, 1) := by decide +kernel
theorem dX6_rub_80 : decode mX6_rub.2.1 80 = .ok (.bipush 9, 2) := by decide +kernel
theorem dX6_rub_82 : decode mX6_rub.2.1 82 = .ok (.iconst 1, 1) := by decide +kernel
theorem dX6_rub_83 : decode mX6_rub.2.1 83 = .ok (.invokevirtual 62, 3) := by decide +kernel
theorem dX6_rub_86 : decode mX6_rub.2.1 86 = .ok (.invokestatic 66, 3) := by decide +kernel
theorem dX6_rub_89 : decode mX6_rub.2.1 89 = .ok (.invokestatic 71, 3) := by decide +kernel
theorem dX6_rub_92 : decode mX6_rub.2.1 92 = .ok (.istore_n 3, 1) := by decide +kernel
theorem dX6_rub_93 : decode mX6_rub.2.1 93 = .ok (.bipush 9, 2) := by decide +kernel
theorem dX6_rub_95 : decode mX6_rub.2.1 95 = .ok (.iconst 0, 1) := by decide +kernel
theorem dX6_rub_96 : decode mX6_rub.2.1 96 = .ok (.aload_n 0, 1) := by decide +kernel
theorem dX6_rub_97 : decode mX6_rub.2.1 97 = .ok (.bipush 10, 2) := by decide +kernel
theorem dX6_rub_99 : decode mX6_rub.2.1 99 = .ok (.iconst 1, 1) := by decide +kernel
theorem dX6_rub_100 : decode mX6_rub.2.1 100 = .ok (.invokevirtual 62, 3) := by decide +kernel
theorem dX6_rub_103 : decode mX6_rub.2.1 103 = .ok (.invokestatic 66, 3) := by decide +kernel
theorem dX6_rub_106 : decode mX6_rub.2.1 106 = .ok (.invokestatic 71, 3) := by decide +kernel
theorem dX6_rub_109 : decode mX6_rub.2.1 109 = .ok (.istore 4, 2) := by decide +kernel
theorem dX6_rub_111 : decode mX6_rub.2.1 111 = .ok (.aload_n 0, 1) := by decide +kernel
theorem dX6_rub_112 : decode mX6_rub.2.1 112 = .ok (.dup, 1) := by decide +kernel
theorem dX6_rub_113 : decode mX6_rub.2.1 113 = .ok (.getfield 28, 3) := by decide +kernel
theorem dX6_rub_116 : decode mX6_rub.2.1 116 = .ok (.iload_n 3, 1) := by decide +kernel
theorem dX6_rub_117 : decode mX6_rub.2.1 117 = .ok (.isub, 1) := by decide +kernel
theorem dX6_rub_118 : decode mX6_rub.2.1 118 = .ok (.putfield 28, 3) := by decide +kernel
theorem dX6_rub_121 : decode mX6_rub.2.1 121 = .ok (.aload_n 0, 1) := by decide +kernel
theorem dX6_rub_122 : decode mX6_rub.2.1 122 = .ok (.dup, 1) := by decide +kernel
theorem dX6_rub_123 : decode mX6_rub.2.1 123 = .ok (.getfield 34, 3) := by decide +kernel
theorem dX6_rub_126 : decode mX6_rub.2.1 126 = .ok (.iload_n 3, 1) := by decide +kernel
theorem dX6_rub_127 : decode mX6_rub.2.1 127 = .ok (.iadd, 1) := by decide +kernel
theorem dX6_rub_128 : decode mX6_rub.2.1 128 = .ok (.putfield 34, 3) := by decide +kernel
theorem dX6_rub_131 : decode mX6_rub.2.1 131 = .ok (.aload_n 0, 1) := by decide +kernel
theorem dX6_rub_132 : decode mX6_rub.2.1 132 = .ok (.iconst 0, 1) := by decide +kernel
theorem dX6_rub_133 : decode mX6_rub.2.1 133 = .ok (.aload_n 0, 1) := by decide +kernel
theorem dX6_rub_134 : decode mX6_rub.2.1 134 = .ok (.getfield 25, 3) := by decide +kernel
theorem dX6_rub_137 : decode mX6_rub.2.1 137 = .ok (.iload 4, 2) := by decide +kernel
theorem dX6_rub_139 : decode mX6_rub.2.1 139 = .ok (.isub, 1) := by decide +kernel
theorem dX6_rub_140 : decode mX6_rub.2.1 140 = .ok (.invokestatic 66, 3) := by decide +kernel
theorem dX6_rub_143 : decode mX6_rub.2.1 143 = .ok (.putfield 25, 3) := by decide +kernel
theorem dX6_rub_146 : decode mX6_rub.2.1 146 = .ok (.iinc 2 1, 3) := by decide +kernel
theorem dX6_rub_149 : decode mX6_rub.2.1 149 = .ok (.goto (-147), 3) := by decide +kernel
theorem dX6_rub_152 : decode mX6_rub.2.1 152 = .ok (.return_, 1) := by decide +kernel
abbrev mX6_bringOut : aM := (yX6_bringOut, cX6_bringOut, 4, (some .boolean))
theorem dX6_bringOut_0 : decode mX6_bringOut.2.1 0 = .ok (.aload_n 0, 1) := by decide +kernel
theorem dX6_bringOut_1 : decode mX6_bringOut.2.1 1 = .ok (.aload_n 1, 1) := by decide +kernel
theorem dX6_bringOut_2 : decode mX6_bringOut.2.1 2 = .ok (.iload_n 2, 1) := by decide +kernel
theorem dX6_bringOut_3 : decode mX6_bringOut.2.1 3 = .ok (.iload_n 3, 1) := by decide +kernel
theorem dX6_bringOut_4 : decode mX6_bringOut.2.1 4 = .ok (.invokevirtual 74, 3) := by decide +kernel
theorem dX6_bringOut_7 : decode mX6_bringOut.2.1 7 = .ok (.aload_n 0, 1) := by decide +kernel
theorem dX6_bringOut_8 : decode mX6_bringOut.2.1 8 = .ok (.bipush 99, 2) := by decide +kernel
theorem dX6_bringOut_10 : decode mX6_bringOut.2.1 10 = .ok (.invokevirtual 78, 3) := by decide +kernel
theorem dX6_bringOut_13 : decode mX6_bringOut.2.1 13 = .ok (.aload_n 0, 1) := by decide +kernel
theorem dX6_bringOut_14 : decode mX6_bringOut.2.1 14 = .ok (.getfield 28, 3) := by decide +kernel
theorem dX6_bringOut_17 : decode mX6_bringOut.2.1 17 = .ok (.ifCond .ne 7, 3) := by decide +kernel
theorem dX6_bringOut_20 : decode mX6_bringOut.2.1 20 = .ok (.iconst 1, 1) := by decide +kernel
theorem dX6_bringOut_21 : decode mX6_bringOut.2.1 21 = .ok (.goto 4, 3) := by decide +kernel
theorem dX6_bringOut_24 : decode mX6_bringOut.2.1 24 = .ok (.iconst 0, 1) := by decide +kernel
theorem dX6_bringOut_25 : decode mX6_bringOut.2.1 25 = .ok (.ireturn, 1) := by decide +kernel
abbrev mX6_preach : aM := (yX6_preach, cX6_preach, 6, none)
theorem dX6_preach_0 : decode mX6_preach.2.1 0 = .ok (.aload_n 0, 1) := by decide +kernel
theorem dX6_preach_1 : decode mX6_preach.2.1 1 = .ok (.aload_n 1, 1) := by decide +kernel
theorem dX6_preach_2 : decode mX6_preach.2.1 2 = .ok (.iload_n 2, 1) := by decide +kernel
theorem dX6_preach_3 : decode mX6_preach.2.1 3 = .ok (.iload_n 3, 1) := by decide +kernel
theorem dX6_preach_4 : decode mX6_preach.2.1 4 = .ok (.invokevirtual 74, 3) := by decide +kernel
theorem dX6_preach_7 : decode mX6_preach.2.1 7 = .ok (.aload_n 0, 1) := by decide +kernel
theorem dX6_preach_8 : decode mX6_preach.2.1 8 = .ok (.iload 4, 2) := by decide +kernel
theorem dX6_preach_10 : decode mX6_preach.2.1 10 = .ok (.invokevirtual 78, 3) := by decide +kernel
theorem dX6_preach_13 : decode mX6_preach.2.1 13 = .ok (.aload_n 1, 1) := by decide +kernel
theorem dX6_preach_14 : decode mX6_preach.2.1 14 = .ok (.getfield 41, 3) := by decide +kernel
theorem dX6_preach_17 : decode mX6_preach.2.1 17 = .ok (.iload_n 2, 1) := by decide +kernel
theorem dX6_preach_18 : decode mX6_preach.2.1 18 = .ok (.aload_n 0, 1) := by decide +kernel
theorem dX6_preach_19 : decode mX6_preach.2.1 19 = .ok (.getfield 25, 3) := by decide +kernel
theorem dX6_preach_22 : decode mX6_preach.2.1 22 = .ok (.iastore, 1) := by decide +kernel
theorem dX6_preach_23 : decode mX6_preach.2.1 23 = .ok (.aload_n 1, 1) := by decide +kernel
theorem dX6_preach_24 : decode mX6_preach.2.1 24 = .ok (.getfield 45, 3) := by decide +kernel
theorem dX6_preach_27 : decode mX6_preach.2.1 27 = .ok (.iload_n 3, 1) := by decide +kernel
theorem dX6_preach_28 : decode mX6_preach.2.1 28 = .ok (.aload_n 0, 1) := by decide +kernel
theorem dX6_preach_29 : decode mX6_preach.2.1 29 = .ok (.getfield 28, 3) := by decide +kernel
theorem dX6_preach_32 : decode mX6_preach.2.1 32 = .ok (.iastore, 1) := by decide +kernel
theorem dX6_preach_33 : decode mX6_preach.2.1 33 = .ok (.aload_n 0, 1) := by decide +kernel
theorem dX6_preach_34 : decode mX6_preach.2.1 34 = .ok (.getfield 9, 3) := by decide +kernel
theorem dX6_preach_37 : decode mX6_preach.2.1 37 = .ok (.iconst 2, 1) := by decide +kernel
theorem dX6_preach_38 : decode mX6_preach.2.1 38 = .ok (.aload_n 0, 1) := by decide +kernel
theorem dX6_preach_39 : decode mX6_preach.2.1 39 = .ok (.getfield 25, 3) := by decide +kernel
theorem dX6_preach_42 : decode mX6_preach.2.1 42 = .ok (.iastore, 1) := by decide +kernel
theorem dX6_preach_43 : decode mX6_preach.2.1 43 = .ok (.aload_n 0, 1) := by decide +kernel
theorem dX6_preach_44 : decode mX6_preach.2.1 44 = .ok (.getfield 9, 3) := by decide +kernel
theorem dX6_preach_47 : decode mX6_preach.2.1 47 = .ok (.iconst 4, 1) := by decide +kernel
theorem dX6_preach_48 : decode mX6_preach.2.1 48 = .ok (.aload_n 0, 1) := by decide +kernel
theorem dX6_preach_49 : decode mX6_preach.2.1 49 = .ok (.getfield 28, 3) := by decide +kernel
theorem dX6_preach_52 : decode mX6_preach.2.1 52 = .ok (.iastore, 1) := by decide +kernel
theorem dX6_preach_53 : decode mX6_preach.2.1 53 = .ok (.aload_n 0, 1) := by decide +kernel
theorem dX6_preach_54 : decode mX6_preach.2.1 54 = .ok (.getfield 9, 3) := by decide +kernel
theorem dX6_preach_57 : decode mX6_preach.2.1 57 = .ok (.bipush 19, 2) := by decide +kernel
theorem dX6_preach_59 : decode mX6_preach.2.1 59 = .ok (.aload_n 0, 1) := by decide +kernel
theorem dX6_preach_60 : decode mX6_preach.2.1 60 = .ok (.getfield 34, 3) := by decide +kernel
theorem dX6_preach_63 : decode mX6_preach.2.1 63 = .ok (.iastore, 1) := by decide +kernel
theorem dX6_preach_64 : decode mX6_preach.2.1 64 = .ok (.aload_n 1, 1) := by decide +kernel
theorem dX6_preach_65 : decode mX6_preach.2.1 65 = .ok (.astore 5, 2) := by decide +kernel
theorem dX6_preach_67 : decode mX6_preach.2.1 67 = .ok (.aload 5, 2) := by decide +kernel
theorem dX6_preach_69 : decode mX6_preach.2.1 69 = .ok (.aload 5, 2) := by decide +kernel
theorem dX6_preach_71 : decode mX6_preach.2.1 71 = .ok (.getfield 82, 3) := by decide +kernel
theorem dX6_preach_74 : decode mX6_preach.2.1 74 = .ok (.aload_n 0, 1) := by decide +kernel
theorem dX6_preach_75 : decode mX6_preach.2.1 75 = .ok (.bipush 11, 2) := by decide +kernel
theorem dX6_preach_77 : decode mX6_preach.2.1 77 = .ok (.aload_n 1, 1) := by decide +kernel
theorem dX6_preach_78 : decode mX6_preach.2.1 78 = .ok (.getfield 82, 3) := by decide +kernel
theorem dX6_preach_81 : decode mX6_preach.2.1 81 = .ok (.iconst (-1), 1) := by decide +kernel
theorem dX6_preach_82 : decode mX6_preach.2.1 82 = .ok (.ixor, 1) := by decide +kernel
theorem dX6_preach_83 : decode mX6_preach.2.1 83 = .ok (.invokevirtual 85, 3) := by decide +kernel
theorem dX6_preach_86 : decode mX6_preach.2.1 86 = .ok (.ior, 1) := by decide +kernel
theorem dX6_preach_87 : decode mX6_preach.2.1 87 = .ok (.dup_x1, 1) := by decide +kernel
theorem dX6_preach_88 : decode mX6_preach.2.1 88 = .ok (.putfield 82, 3) := by decide +kernel
theorem dX6_preach_91 : decode mX6_preach.2.1 91 = .ok (.pop, 1) := by decide +kernel
theorem dX6_preach_92 : decode mX6_preach.2.1 92 = .ok (.return_, 1) := by decide +kernel
abbrev mX6_passWeek : aM := (yX6_passWeek, cX6_passWeek, 6, none)
theorem dX6_passWeek_0 : decode mX6_passWeek.2.1 0 = .ok (.aload_n 1, 1) := by decide +kernel
theorem dX6_passWeek_1 : decode mX6_passWeek.2.1 1 = .ok (.getfield 82, 3) := by decide +kernel
theorem dX6_passWeek_4 : decode mX6_passWeek.2.1 4 = .ok (.istore_n 3, 1) := by decide +kernel
theorem dX6_passWeek_5 : decode mX6_passWeek.2.1 5 = .ok (.iload_n 2, 1) := by decide +kernel
theorem dX6_passWeek_6 : decode mX6_passWeek.2.1 6 = .ok (.ifCond .eq 7, 3) := by decide +kernel
theorem dX6_passWeek_9 : decode mX6_passWeek.2.1 9 = .ok (.iconst (-1), 1) := by decide +kernel
theorem dX6_passWeek_10 : decode mX6_passWeek.2.1 10 = .ok (.goto 8, 3) := by decide +kernel
theorem dX6_passWeek_13 : decode mX6_passWeek.2.1 13 = .ok (.aload_n 0, 1) := by decide +kernel
theorem dX6_passWeek_14 : decode mX6_passWeek.2.1 14 = .ok (.aload_n 1, 1) := by decide +kernel
theorem dX6_passWeek_15 : decode mX6_passWeek.2.1 15 = .ok (.invokevirtual 88, 3) := by decide +kernel
theorem dX6_passWeek_18 : decode mX6_passWeek.2.1 18 = .ok (.istore 4, 2) := by decide +kernel
theorem dX6_passWeek_20 : decode mX6_passWeek.2.1 20 = .ok (.iload 4, 2) := by decide +kernel
theorem dX6_passWeek_22 : decode mX6_passWeek.2.1 22 = .ok (.iconst (-1), 1) := by decide +kernel
theorem dX6_passWeek_23 : decode mX6_passWeek.2.1 23 = .ok (.if_icmp .eq 45, 3) := by decide +kernel
theorem dX6_passWeek_26 : decode mX6_passWeek.2.1 26 = .ok (.aload_n 0, 1) := by decide +kernel
theorem dX6_passWeek_27 : decode mX6_passWeek.2.1 27 = .ok (.getfield 37, 3) := by decide +kernel
theorem dX6_passWeek_30 : decode mX6_passWeek.2.1 30 = .ok (.getfield 92, 3) := by decide +kernel
theorem dX6_passWeek_33 : decode mX6_passWeek.2.1 33 = .ok (.iconst 0, 1) := by decide +kernel
theorem dX6_passWeek_34 : decode mX6_passWeek.2.1 34 = .ok (.iaload, 1) := by decide +kernel
theorem dX6_passWeek_35 : decode mX6_passWeek.2.1 35 = .ok (.ifCond .le 33, 3) := by decide +kernel
theorem dX6_passWeek_38 : decode mX6_passWeek.2.1 38 = .ok (.aload_n 0, 1) := by decide +kernel
theorem dX6_passWeek_39 : decode mX6_passWeek.2.1 39 = .ok (.aload_n 1, 1) := by decide +kernel
theorem dX6_passWeek_40 : decode mX6_passWeek.2.1 40 = .ok (.iload 4, 2) := by decide +kernel
theorem dX6_passWeek_42 : decode mX6_passWeek.2.1 42 = .ok (.invokevirtual 95, 3) := by decide +kernel
theorem dX6_passWeek_45 : decode mX6_passWeek.2.1 45 = .ok (.istore 5, 2) := by decide +kernel
theorem dX6_passWeek_47 : decode mX6_passWeek.2.1 47 = .ok (.aload_n 0, 1) := by decide +kernel
theorem dX6_passWeek_48 : decode mX6_passWeek.2.1 48 = .ok (.aload_n 1, 1) := by decide +kernel
theorem dX6_passWeek_49 : decode mX6_passWeek.2.1 49 = .ok (.iload 5, 2) := by decide +kernel
theorem dX6_passWeek_51 : decode mX6_passWeek.2.1 51 = .ok (.iload 4, 2) := by decide +kernel
theorem dX6_passWeek_53 : decode mX6_passWeek.2.1 53 = .ok (.aload_n 0, 1) := by decide +kernel
theorem dX6_passWeek_54 : decode mX6_passWeek.2.1 54 = .ok (.getfield 37, 3) := by decide +kernel
theorem dX6_passWeek_57 : decode mX6_passWeek.2.1 57 = .ok (.iload 5, 2) := by decide +kernel
theorem dX6_passWeek_59 : decode mX6_passWeek.2.1 59 = .ok (.invokevirtual 47, 3) := by decide +kernel
theorem dX6_passWeek_62 : decode mX6_passWeek.2.1 62 = .ok (.invokevirtual 99, 3) := by decide +kernel
theorem dX6_passWeek_65 : decode mX6_passWeek.2.1 65 = .ok (.goto 8, 3) := by decide +kernel
theorem dX6_passWeek_68 : decode mX6_passWeek.2.1 68 = .ok (.aload_n 0, 1) := by decide +kernel
theorem dX6_passWeek_69 : decode mX6_passWeek.2.1 69 = .ok (.aload_n 1, 1) := by decide +kernel
theorem dX6_passWeek_70 : decode mX6_passWeek.2.1 70 = .ok (.invokevirtual 103, 3) := by decide +kernel
theorem dX6_passWeek_73 : decode mX6_passWeek.2.1 73 = .ok (.aload_n 1, 1) := by decide +kernel
theorem dX6_passWeek_74 : decode mX6_passWeek.2.1 74 = .ok (.dup, 1) := by decide +kernel
theorem dX6_passWeek_75 : decode mX6_passWeek.2.1 75 = .ok (.getfield 82, 3) := by decide +kernel
theorem dX6_passWeek_78 : decode mX6_passWeek.2.1 78 = .ok (.aload_n 0, 1) := by decide +kernel
theorem dX6_passWeek_79 : decode mX6_passWeek.2.1 79 = .ok (.bipush 12, 2) := by decide +kernel
theorem dX6_passWeek_81 : decode mX6_passWeek.2.1 81 = .ok (.iload_n 3, 1) := by decide +kernel
theorem dX6_passWeek_82 : decode mX6_passWeek.2.1 82 = .ok (.invokevirtual 85, 3) := by decide +kernel
theorem dX6_passWeek_85 : decode mX6_passWeek.2.1 85 = .ok (.iconst (-1), 1) := by decide +kernel
theorem dX6_passWeek_86 : decode mX6_passWeek.2.1 86 = .ok (.ixor, 1) := by decide +kernel
theorem dX6_passWeek_87 : decode mX6_passWeek.2.1 87 = .ok (.iand, 1) := by decide +kernel
theorem dX6_passWeek_88 : decode mX6_passWeek.2.1 88 = .ok (.putfield 82, 3) := by decide +kernel
theorem dX6_passWeek_91 : decode mX6_passWeek.2.1 91 = .ok (.aload_n 1, 1) := by decide +kernel
theorem dX6_passWeek_92 : decode mX6_passWeek.2.1 92 = .ok (.sipush 999, 3) := by decide +kernel
theorem dX6_passWeek_95 : decode mX6_passWeek.2.1 95 = .ok (.aload_n 1, 1) := by decide +kernel
theorem dX6_passWeek_96 : decode mX6_passWeek.2.1 96 = .ok (.getfield 59, 3) := by decide +kernel
theorem dX6_passWeek_99 : decode mX6_passWeek.2.1 99 = .ok (.iconst 1, 1) := by decide +kernel
theorem dX6_passWeek_100 : decode mX6_passWeek.2.1 100 = .ok (.iadd, 1) := by decide +kernel
theorem dX6_passWeek_101 : decode mX6_passWeek.2.1 101 = .ok (.invokestatic 71, 3) := by decide +kernel
theorem dX6_passWeek_104 : decode mX6_passWeek.2.1 104 = .ok (.putfield 59, 3) := by decide +kernel
theorem dX6_passWeek_107 : decode mX6_passWeek.2.1 107 = .ok (.return_, 1) := by decide +kernel
abbrev mX6_restWithoutSermon : aM := (yX6_restWithoutSermon, cX6_restWithoutSermon, 2, none)
theorem dX6_restWithoutSermon_0 : decode mX6_restWithoutSermon.2.1 0 = .ok (.aload_n 0, 1) := by decide +kernel
theorem dX6_restWithoutSermon_1 : decode mX6_restWithoutSermon.2.1 1 = .ok (.iconst (-1), 1) := by decide +kernel
theorem dX6_restWithoutSermon_2 : decode mX6_restWithoutSermon.2.1 2 = .ok (.putfield 18, 3) := by decide +kernel
theorem dX6_restWithoutSermon_5 : decode mX6_restWithoutSermon.2.1 5 = .ok (.aload_n 0, 1) := by decide +kernel
theorem dX6_restWithoutSermon_6 : decode mX6_restWithoutSermon.2.1 6 = .ok (.iconst (-1), 1) := by decide +kernel
theorem dX6_restWithoutSermon_7 : decode mX6_restWithoutSermon.2.1 7 = .ok (.putfield 22, 3) := by decide +kernel
theorem dX6_restWithoutSermon_10 : decode mX6_restWithoutSermon.2.1 10 = .ok (.aload_n 0, 1) := by decide +kernel
theorem dX6_restWithoutSermon_11 : decode mX6_restWithoutSermon.2.1 11 = .ok (.iconst 0, 1) := by decide +kernel
theorem dX6_restWithoutSermon_12 : decode mX6_restWithoutSermon.2.1 12 = .ok (.putfield 34, 3) := by decide +kernel
theorem dX6_restWithoutSermon_15 : decode mX6_restWithoutSermon.2.1 15 = .ok (.aload_n 0, 1) := by decide +kernel
theorem dX6_restWithoutSermon_16 : decode mX6_restWithoutSermon.2.1 16 = .ok (.getfield 9, 3) := by decide +kernel
theorem dX6_restWithoutSermon_19 : decode mX6_restWithoutSermon.2.1 19 = .ok (.iconst 1, 1) := by decide +kernel
theorem dX6_restWithoutSermon_20 : decode mX6_restWithoutSermon.2.1 20 = .ok (.iconst 0, 1) := by decide +kernel
theorem dX6_restWithoutSermon_21 : decode mX6_restWithoutSermon.2.1 21 = .ok (.iastore, 1) := by decide +kernel
theorem dX6_restWithoutSermon_22 : decode mX6_restWithoutSermon.2.1 22 = .ok (.aload_n 0, 1) := by decide +kernel
theorem dX6_restWithoutSermon_23 : decode mX6_restWithoutSermon.2.1 23 = .ok (.getfield 9, 3) := by decide +kernel
theorem dX6_restWithoutSermon_26 : decode mX6_restWithoutSermon.2.1 26 = .ok (.iconst 2, 1) := by decide +kernel
theorem dX6_restWithoutSermon_27 : decode mX6_restWithoutSermon.2.1 27 = .ok (.iconst 0, 1) := by decide +kernel
theorem dX6_restWithoutSermon_28 : decode mX6_restWithoutSermon.2.1 28 = .ok (.iastore, 1) := by decide +kernel
theorem dX6_restWithoutSermon_29 : decode mX6_restWithoutSermon.2.1 29 = .ok (.aload_n 0, 1) := by decide +kernel
theorem dX6_restWithoutSermon_30 : decode mX6_restWithoutSermon.2.1 30 = .ok (.getfield 9, 3) := by decide +kernel
theorem dX6_restWithoutSermon_33 : decode mX6_restWithoutSermon.2.1 33 = .ok (.iconst 4, 1) := by decide +kernel
theorem dX6_restWithoutSermon_34 : decode mX6_restWithoutSermon.2.1 34 = .ok (.iconst 0, 1) := by decide +kernel
theorem dX6_restWithoutSermon_35 : decode mX6_restWithoutSermon.2.1 35 = .ok (.iastore, 1) := by decide +kernel
theorem dX6_restWithoutSermon_36 : decode mX6_restWithoutSermon.2.1 36 = .ok (.aload_n 0, 1) := by decide +kernel
theorem dX6_restWithoutSermon_37 : decode mX6_restWithoutSermon.2.1 37 = .ok (.getfield 9, 3) := by decide +kernel
theorem dX6_restWithoutSermon_40 : decode mX6_restWithoutSermon.2.1 40 = .ok (.iconst 5, 1) := by decide +kernel
theorem dX6_restWithoutSermon_41 : decode mX6_restWithoutSermon.2.1 41 = .ok (.iconst 0, 1) := by decide +kernel
theorem dX6_restWithoutSermon_42 : decode mX6_restWithoutSermon.2.1 42 = .ok (.iastore, 1) := by decide +kernel
theorem dX6_restWithoutSermon_43 : decode mX6_restWithoutSermon.2.1 43 = .ok (.aload_n 0, 1) := by decide +kernel
theorem dX6_restWithoutSermon_44 : decode mX6_restWithoutSermon.2.1 44 = .ok (.getfield 9, 3) := by decide +kernel
theorem dX6_restWithoutSermon_47 : decode mX6_restWithoutSermon.2.1 47 = .ok (.bipush 19, 2) := by decide +kernel
theorem dX6_restWithoutSermon_49 : decode mX6_restWithoutSermon.2.1 49 = .ok (.iconst 0, 1) := by decide +kernel
theorem dX6_restWithoutSermon_50 : decode mX6_restWithoutSermon.2.1 50 = .ok (.iastore, 1) := by decide +kernel
theorem dX6_restWithoutSermon_51 : decode mX6_restWithoutSermon.2.1 51 = .ok (.aload_n 0, 1) := by decide +kernel
theorem dX6_restWithoutSermon_52 : decode mX6_restWithoutSermon.2.1 52 = .ok (.getfield 9, 3) := by decide +kernel
theorem dX6_restWithoutSermon_55 : decode mX6_restWithoutSermon.2.1 55 = .ok (.bipush 14, 2) := by decide +kernel
theorem dX6_restWithoutSermon_57 : decode mX6_restWithoutSermon.2.1 57 = .ok (.aload_n 1, 1) := by decide +kernel
theorem dX6_restWithoutSermon_58 : decode mX6_restWithoutSermon.2.1 58 = .ok (.getfield 56, 3) := by decide +kernel
theorem dX6_restWithoutSermon_61 : decode mX6_restWithoutSermon.2.1 61 = .ok (.iastore, 1) := by decide +kernel
theorem dX6_restWithoutSermon_62 : decode mX6_restWithoutSermon.2.1 62 = .ok (.aload_n 0, 1) := by decide +kernel
theorem dX6_restWithoutSermon_63 : decode mX6_restWithoutSermon.2.1 63 = .ok (.getfield 9, 3) := by decide +kernel
theorem dX6_restWithoutSermon_66 : decode mX6_restWithoutSermon.2.1 66 = .ok (.bipush 16, 2) := by decide +kernel
theorem dX6_restWithoutSermon_68 : decode mX6_restWithoutSermon.2.1 68 = .ok (.aload_n 1, 1) := by decide +kernel
theorem dX6_restWithoutSermon_69 : decode mX6_restWithoutSermon.2.1 69 = .ok (.getfield 59, 3) := by decide +kernel
theorem dX6_restWithoutSermon_72 : decode mX6_restWithoutSermon.2.1 72 = .ok (.iastore, 1) := by decide +kernel
theorem dX6_restWithoutSermon_73 : decode mX6_restWithoutSermon.2.1 73 = .ok (.return_, 1) := by decide +kernel
abbrev mX6_deepestOf : aM := (yX6_deepestOf, cX6_deepestOf, 5, (some .int))
theorem dX6_deepestOf_0 : decode mX6_deepestOf.2.1 0 = .ok (.iconst (-1), 1) := by decide +kernel
theorem dX6_deepestOf_1 : decode mX6_deepestOf.2.1 1 = .ok (.istore_n 2, 1) := by decide +kernel
theorem dX6_deepestOf_2 : decode mX6_deepestOf.2.1 2 = .ok (.iconst 0, 1) := by decide +kernel
theorem dX6_deepestOf_3 : decode mX6_deepestOf.2.1 3 = .ok (.istore_n 3, 1) := by decide +kernel
theorem dX6_deepestOf_4 : decode mX6_deepestOf.2.1 4 = .ok (.iconst 0, 1) := by decide +kernel
theorem dX6_deepestOf_5 : decode mX6_deepestOf.2.1 5 = .ok (.istore 4, 2) := by decide +kernel
theorem dX6_deepestOf_7 : decode mX6_deepestOf.2.1 7 = .ok (.iload 4, 2) := by decide +kernel
theorem dX6_deepestOf_9 : decode mX6_deepestOf.2.1 9 = .ok (.aload_n 0, 1) := by decide +kernel
theorem dX6_deepestOf_10 : decode mX6_deepestOf.2.1 10 = .ok (.getfield 37, 3) := by decide +kernel
theorem dX6_deepestOf_13 : decode mX6_deepestOf.2.1 13 = .ok (.getfield 92, 3) := by decide +kernel
theorem dX6_deepestOf_16 : decode mX6_deepestOf.2.1 16 = .ok (.iconst 1, 1) := by decide +kernel
theorem dX6_deepestOf_17 : decode mX6_deepestOf.2.1 17 = .ok (.iaload, 1) := by decide +kernel
theorem dX6_deepestOf_18 : decode mX6_deepestOf.2.1 18 = .ok (.if_icmp .ge 31, 3) := by decide +kernel
theorem dX6_deepestOf_21 : decode mX6_deepestOf.2.1 21 = .ok (.aload_n 1, 1) := by decide +kernel
theorem dX6_deepestOf_22 : decode mX6_deepestOf.2.1 22 = .ok (.getfield 45, 3) := by decide +kernel
theorem dX6_deepestOf_25 : decode mX6_deepestOf.2.1 25 = .ok (.iload 4, 2) := by decide +kernel
theorem dX6_deepestOf_27 : decode mX6_deepestOf.2.1 27 = .ok (.iaload, 1) := by decide +kernel
theorem dX6_deepestOf_28 : decode mX6_deepestOf.2.1 28 = .ok (.iload_n 3, 1) := by decide +kernel
theorem dX6_deepestOf_29 : decode mX6_deepestOf.2.1 29 = .ok (.if_icmp .le 14, 3) := by decide +kernel
theorem dX6_deepestOf_32 : decode mX6_deepestOf.2.1 32 = .ok (.iload 4, 2) := by decide +kernel
theorem dX6_deepestOf_34 : decode mX6_deepestOf.2.1 34 = .ok (.istore_n 2, 1) := by decide +kernel
theorem dX6_deepestOf_35 : decode mX6_deepestOf.2.1 35 = .ok (.aload_n 1, 1) := by decide +kernel
theorem dX6_deepestOf_36 : decode mX6_deepestOf.2.1 36 = .ok (.getfield 45, 3) := by decide +kernel
theorem dX6_deepestOf_39 : decode mX6_deepestOf.2.1 39 = .ok (.iload 4, 2) := by decide +kernel
theorem dX6_deepestOf_41 : decode mX6_deepestOf.2.1 41 = .ok (.iaload, 1) := by decide +kernel
theorem dX6_deepestOf_42 : decode mX6_deepestOf.2.1 42 = .ok (.istore_n 3, 1) := by decide +kernel
theorem dX6_deepestOf_43 : decode mX6_deepestOf.2.1 43 = .ok (.iinc 4 1, 3) := by decide +kernel
theorem dX6_deepestOf_46 : decode mX6_deepestOf.2.1 46 = .ok (.goto (-39), 3) := by decide +kernel
theorem dX6_deepestOf_49 : decode mX6_deepestOf.2.1 49 = .ok (.iload_n 2, 1) := by decide +kernel
theorem dX6_deepestOf_50 : decode mX6_deepestOf.2.1 50 = .ok (.ireturn, 1) := by decide +kernel
abbrev mX6_pickFor : aM := (yX6_pickFor, cX6_pickFor, 7, (some .int))
theorem dX6_pickFor_0 : decode mX6_pickFor.2.1 0 = .ok (.iconst 0, 1) := by decide +kernel
theorem dX6_pickFor_1 : decode mX6_pickFor.2.1 1 = .ok (.istore_n 3, 1) := by decide +kernel
theorem dX6_pickFor_2 : decode mX6_pickFor.2.1 2 = .ok (.iconst 0, 1) := by decide +kernel
theorem dX6_pickFor_3 : decode mX6_pickFor.2.1 3 = .ok (.istore 4, 2) := by decide +kernel
theorem dX6_pickFor_5 : decode mX6_pickFor.2.1 5 = .ok (.iconst 0, 1) := by decide +kernel
theorem dX6_pickFor_6 : decode mX6_pickFor.2.1 6 = .ok (.istore 5, 2) := by decide +kernel
theorem dX6_pickFor_8 : decode mX6_pickFor.2.1 8 = .ok (.iload 5, 2) := by decide +kernel
theorem dX6_pickFor_10 : decode mX6_pickFor.2.1 10 = .ok (.aload_n 0, 1) := by decide +kernel
theorem dX6_pickFor_11 : decode mX6_pickFor.2.1 11 = .ok (.getfield 37, 3) := by decide +kernel
theorem dX6_pickFor_14 : decode mX6_pickFor.2.1 14 = .ok (.getfield 92, 3) := by decide +kernel
theorem dX6_pickFor_17 : decode mX6_pickFor.2.1 17 = .ok (.iconst 0, 1) := by decide +kernel
theorem dX6_pickFor_18 : decode mX6_pickFor.2.1 18 = .ok (.iaload, 1) := by decide +kernel
theorem dX6_pickFor_19 : decode mX6_pickFor.2.1 19 = .ok (.if_icmp .ge 65, 3) := by decide +kernel
theorem dX6_pickFor_22 : decode mX6_pickFor.2.1 22 = .ok (.aload_n 0, 1) := by decide +kernel
theorem dX6_pickFor_23 : decode mX6_pickFor.2.1 23 = .ok (.aload_n 1, 1) := by decide +kernel
theorem dX6_pickFor_24 : decode mX6_pickFor.2.1 24 = .ok (.iload 5, 2) := by decide +kernel
theorem dX6_pickFor_26 : decode mX6_pickFor.2.1 26 = .ok (.iload_n 2, 1) := by decide +kernel
theorem dX6_pickFor_27 : decode mX6_pickFor.2.1 27 = .ok (.invokevirtual 74, 3) := by decide +kernel
theorem dX6_pickFor_30 : decode mX6_pickFor.2.1 30 = .ok (.aload_n 0, 1) := by decide +kernel
theorem dX6_pickFor_31 : decode mX6_pickFor.2.1 31 = .ok (.getfield 9, 3) := by decide +kernel
theorem dX6_pickFor_34 : decode mX6_pickFor.2.1 34 = .ok (.iconst 2, 1) := by decide +kernel
theorem dX6_pickFor_35 : decode mX6_pickFor.2.1 35 = .ok (.aload_n 0, 1) := by decide +kernel
theorem dX6_pickFor_36 : decode mX6_pickFor.2.1 36 = .ok (.getfield 25, 3) := by decide +kernel
theorem dX6_pickFor_39 : decode mX6_pickFor.2.1 39 = .ok (.iastore, 1) := by decide +kernel
theorem dX6_pickFor_40 : decode mX6_pickFor.2.1 40 = .ok (.aload_n 0, 1) := by decide +kernel
theorem dX6_pickFor_41 : decode mX6_pickFor.2.1 41 = .ok (.getfield 9, 3) := by decide +kernel
theorem dX6_pickFor_44 : decode mX6_pickFor.2.1 44 = .ok (.iconst 4, 1) := by decide +kernel
theorem dX6_pickFor_45 : decode mX6_pickFor.2.1 45 = .ok (.aload_n 0, 1) := by decide +kernel
theorem dX6_pickFor_46 : decode mX6_pickFor.2.1 46 = .ok (.getfield 28, 3) := by decide +kernel
theorem dX6_pickFor_49 : decode mX6_pickFor.2.1 49 = .ok (.iastore, 1) := by decide +kernel
theorem dX6_pickFor_50 : decode mX6_pickFor.2.1 50 = .ok (.aload_n 0, 1) := by decide +kernel
theorem dX6_pickFor_51 : decode mX6_pickFor.2.1 51 = .ok (.bipush 13, 2) := by decide +kernel
theorem dX6_pickFor_53 : decode mX6_pickFor.2.1 53 = .ok (.iconst 0, 1) := by decide +kernel
theorem dX6_pickFor_54 : decode mX6_pickFor.2.1 54 = .ok (.invokevirtual 62, 3) := by decide +kernel
theorem dX6_pickFor_57 : decode mX6_pickFor.2.1 57 = .ok (.istore 6, 2) := by decide +kernel
theorem dX6_pickFor_59 : decode mX6_pickFor.2.1 59 = .ok (.iload 5, 2) := by decide +kernel
theorem dX6_pickFor_61 : decode mX6_pickFor.2.1 61 = .ok (.ifCond .eq 10, 3) := by decide +kernel
theorem dX6_pickFor_64 : decode mX6_pickFor.2.1 64 = .ok (.iload 6, 2) := by decide +kernel
theorem dX6_pickFor_66 : decode mX6_pickFor.2.1 66 = .ok (.iload 4, 2) := by decide +kernel
theorem dX6_pickFor_68 : decode mX6_pickFor.2.1 68 = .ok (.if_icmp .le 10, 3) := by decide +kernel
theorem dX6_pickFor_71 : decode mX6_pickFor.2.1 71 = .ok (.iload 5, 2) := by decide +kernel
theorem dX6_pickFor_73 : decode mX6_pickFor.2.1 73 = .ok (.istore_n 3, 1) := by decide +kernel
theorem dX6_pickFor_74 : decode mX6_pickFor.2.1 74 = .ok (.iload 6, 2) := by decide +kernel
theorem dX6_pickFor_76 : decode mX6_pickFor.2.1 76 = .ok (.istore 4, 2) := by decide +kernel
theorem dX6_pickFor_78 : decode mX6_pickFor.2.1 78 = .ok (.iinc 5 1, 3) := by decide +kernel
theorem dX6_pickFor_81 : decode mX6_pickFor.2.1 81 = .ok (.goto (-73), 3) := by decide +kernel
theorem dX6_pickFor_84 : decode mX6_pickFor.2.1 84 = .ok (.iload_n 3, 1) := by decide +kernel
theorem dX6_pickFor_85 : decode mX6_pickFor.2.1 85 = .ok (.ireturn, 1) := by decide +kernel
abbrev mX6_whoHolds : aM := (yX6_whoHolds, cX6_whoHolds, 5, (some .int))
theorem dX6_whoHolds_0 : decode mX6_whoHolds.2.1 0 = .ok (.iconst 0, 1) := by decide +kernel
theorem dX6_whoHolds_1 : decode mX6_whoHolds.2.1 1 = .ok (.istore_n 3, 1) := by decide +kernel
theorem dX6_whoHolds_2 : decode mX6_whoHolds.2.1 2 = .ok (.iconst 0, 1) := by decide +kernel
theorem dX6_whoHolds_3 : decode mX6_whoHolds.2.1 3 = .ok (.istore 4, 2) := by decide +kernel
theorem dX6_whoHolds_5 : decode mX6_whoHolds.2.1 5 = .ok (.iload 4, 2) := by decide +kernel
theorem dX6_whoHolds_7 : decode mX6_whoHolds.2.1 7 = .ok (.aload_n 0, 1) := by decide +kernel
theorem dX6_whoHolds_8 : decode mX6_whoHolds.2.1 8 = .ok (.getfield 37, 3) := by decide +kernel
theorem dX6_whoHolds_11 : decode mX6_whoHolds.2.1 11 = .ok (.getfield 92, 3) := by decide +kernel
theorem dX6_whoHolds_14 : decode mX6_whoHolds.2.1 14 = .ok (.iconst 2, 1) := by decide +kernel
theorem dX6_whoHolds_15 : decode mX6_whoHolds.2.1 15 = .ok (.iaload, 1) := by decide +kernel
theorem dX6_whoHolds_16 : decode mX6_whoHolds.2.1 16 = .ok (.if_icmp .ge 71, 3) := by decide +kernel
theorem dX6_whoHolds_19 : decode mX6_whoHolds.2.1 19 = .ok (.iload_n 2, 1) := by decide +kernel
theorem dX6_whoHolds_20 : decode mX6_whoHolds.2.1 20 = .ok (.iload 4, 2) := by decide +kernel
theorem dX6_whoHolds_22 : decode mX6_whoHolds.2.1 22 = .ok (.ishr, 1) := by decide +kernel
theorem dX6_whoHolds_23 : decode mX6_whoHolds.2.1 23 = .ok (.iconst 1, 1) := by decide +kernel
theorem dX6_whoHolds_24 : decode mX6_whoHolds.2.1 24 = .ok (.iand, 1) := by decide +kernel
theorem dX6_whoHolds_25 : decode mX6_whoHolds.2.1 25 = .ok (.iconst 1, 1) := by decide +kernel
theorem dX6_whoHolds_26 : decode mX6_whoHolds.2.1 26 = .ok (.if_icmp .ne 55, 3) := by decide +kernel
theorem dX6_whoHolds_29 : decode mX6_whoHolds.2.1 29 = .ok (.aload_n 0, 1) := by decide +kernel
theorem dX6_whoHolds_30 : decode mX6_whoHolds.2.1 30 = .ok (.getfield 9, 3) := by decide +kernel
theorem dX6_whoHolds_33 : decode mX6_whoHolds.2.1 33 = .ok (.bipush 7, 2) := by decide +kernel
theorem dX6_whoHolds_35 : decode mX6_whoHolds.2.1 35 = .ok (.aload_n 0, 1) := by decide +kernel
theorem dX6_whoHolds_36 : decode mX6_whoHolds.2.1 36 = .ok (.getfield 37, 3) := by decide +kernel
theorem dX6_whoHolds_39 : decode mX6_whoHolds.2.1 39 = .ok (.iload 4, 2) := by decide +kernel
theorem dX6_whoHolds_41 : decode mX6_whoHolds.2.1 41 = .ok (.invokevirtual 107, 3) := by decide +kernel
theorem dX6_whoHolds_44 : decode mX6_whoHolds.2.1 44 = .ok (.iastore, 1) := by decide +kernel
theorem dX6_whoHolds_45 : decode mX6_whoHolds.2.1 45 = .ok (.aload_n 0, 1) := by decide +kernel
theorem dX6_whoHolds_46 : decode mX6_whoHolds.2.1 46 = .ok (.getfield 9, 3) := by decide +kernel
theorem dX6_whoHolds_49 : decode mX6_whoHolds.2.1 49 = .ok (.bipush 8, 2) := by decide +kernel
theorem dX6_whoHolds_51 : decode mX6_whoHolds.2.1 51 = .ok (.aload_n 0, 1) := by decide +kernel
theorem dX6_whoHolds_52 : decode mX6_whoHolds.2.1 52 = .ok (.getfield 37, 3) := by decide +kernel
theorem dX6_whoHolds_55 : decode mX6_whoHolds.2.1 55 = .ok (.iload 4, 2) := by decide +kernel
theorem dX6_whoHolds_57 : decode mX6_whoHolds.2.1 57 = .ok (.invokevirtual 110, 3) := by decide +kernel
theorem dX6_whoHolds_60 : decode mX6_whoHolds.2.1 60 = .ok (.iastore, 1) := by decide +kernel
theorem dX6_whoHolds_61 : decode mX6_whoHolds.2.1 61 = .ok (.iload_n 3, 1) := by decide +kernel
theorem dX6_whoHolds_62 : decode mX6_whoHolds.2.1 62 = .ok (.aload_n 0, 1) := by decide +kernel
theorem dX6_whoHolds_63 : decode mX6_whoHolds.2.1 63 = .ok (.iload_n 1, 1) := by decide +kernel
theorem dX6_whoHolds_64 : decode mX6_whoHolds.2.1 64 = .ok (.iconst 0, 1) := by decide +kernel
theorem dX6_whoHolds_65 : decode mX6_whoHolds.2.1 65 = .ok (.invokevirtual 62, 3) := by decide +kernel
theorem dX6_whoHolds_68 : decode mX6_whoHolds.2.1 68 = .ok (.ifCond .eq 10, 3) := by decide +kernel
theorem dX6_whoHolds_71 : decode mX6_whoHolds.2.1 71 = .ok (.iconst 1, 1) := by decide +kernel
theorem dX6_whoHolds_72 : decode mX6_whoHolds.2.1 72 = .ok (.iload 4, 2) := by decide +kernel
theorem dX6_whoHolds_74 : decode mX6_whoHolds.2.1 74 = .ok (.ishl, 1) := by decide +kernel
theorem dX6_whoHolds_75 : decode mX6_whoHolds.2.1 75 = .ok (.goto 4, 3) := by decide +kernel
theorem dX6_whoHolds_78 : decode mX6_whoHolds.2.1 78 = .ok (.iconst 0, 1) := by decide +kernel
theorem dX6_whoHolds_79 : decode mX6_whoHolds.2.1 79 = .ok (.ior, 1) := by decide +kernel
theorem dX6_whoHolds_80 : decode mX6_whoHolds.2.1 80 = .ok (.istore_n 3, 1) := by decide +kernel
theorem dX6_whoHolds_81 : decode mX6_whoHolds.2.1 81 = .ok (.iinc 4 1, 3) := by decide +kernel
theorem dX6_whoHolds_84 : decode mX6_whoHolds.2.1 84 = .ok (.goto (-79), 3) := by decide +kernel
theorem dX6_whoHolds_87 : decode mX6_whoHolds.2.1 87 = .ok (.iload_n 3, 1) := by decide +kernel
theorem dX6_whoHolds_88 : decode mX6_whoHolds.2.1 88 = .ok (.ireturn, 1) := by decide +kernel
abbrev mX6_valueOf : aM := (yX6_valueOf, cX6_valueOf, 9, (some .int))
theorem dX6_valueOf_0 : decode mX6_valueOf.2.1 0 = .ok (.aload_n 0, 1) := by decide +kernel
theorem dX6_valueOf_1 : decode mX6_valueOf.2.1 1 = .ok (.getfield 37, 3) := by decide +kernel
theorem dX6_valueOf_4 : decode mX6_valueOf.2.1 4 = .ok (.getfield 113, 3) := by decide +kernel
theorem dX6_valueOf_7 : decode mX6_valueOf.2.1 7 = .ok (.iload_n 1, 1) := by decide +kernel
theorem dX6_valueOf_8 : decode mX6_valueOf.2.1 8 = .ok (.bipush 9, 2) := by decide +kernel
theorem dX6_valueOf_10 : decode mX6_valueOf.2.1 10 = .ok (.isub, 1) := by decide +kernel
theorem dX6_valueOf_11 : decode mX6_valueOf.2.1 11 = .ok (.iaload, 1) := by decide +kernel
theorem dX6_valueOf_12 : decode mX6_valueOf.2.1 12 = .ok (.istore_n 3, 1) := by decide +kernel
theorem dX6_valueOf_13 : decode mX6_valueOf.2.1 13 = .ok (.aload_n 0, 1) := by decide +kernel
theorem dX6_valueOf_14 : decode mX6_valueOf.2.1 14 = .ok (.getfield 37, 3) := by decide +kernel
theorem dX6_valueOf_17 : decode mX6_valueOf.2.1 17 = .ok (.getfield 116, 3) := by decide +kernel
theorem dX6_valueOf_20 : decode mX6_valueOf.2.1 20 = .ok (.iload_n 1, 1) := by decide +kernel
theorem dX6_valueOf_21 : decode mX6_valueOf.2.1 21 = .ok (.bipush 9, 2) := by decide +kernel
theorem dX6_valueOf_23 : decode mX6_valueOf.2.1 23 = .ok (.isub, 1) := by decide +kernel
theorem dX6_valueOf_24 : decode mX6_valueOf.2.1 24 = .ok (.iaload, 1) := by decide +kernel
theorem dX6_valueOf_25 : decode mX6_valueOf.2.1 25 = .ok (.aload_n 0, 1) := by decide +kernel
theorem dX6_valueOf_26 : decode mX6_valueOf.2.1 26 = .ok (.getfield 37, 3) := by decide +kernel
theorem dX6_valueOf_29 : decode mX6_valueOf.2.1 29 = .ok (.getfield 119, 3) := by decide +kernel
theorem dX6_valueOf_32 : decode mX6_valueOf.2.1 32 = .ok (.invokestatic 71, 3) := by decide +kernel
theorem dX6_valueOf_35 : decode mX6_valueOf.2.1 35 = .ok (.istore 4, 2) := by decide +kernel
theorem dX6_valueOf_37 : decode mX6_valueOf.2.1 37 = .ok (.iconst 0, 1) := by decide +kernel
theorem dX6_valueOf_38 : decode mX6_valueOf.2.1 38 = .ok (.istore 5, 2) := by decide +kernel
theorem dX6_valueOf_40 : decode mX6_valueOf.2.1 40 = .ok (.iload_n 3, 1) := by decide +kernel
theorem dX6_valueOf_41 : decode mX6_valueOf.2.1 41 = .ok (.istore 6, 2) := by decide +kernel
theorem dX6_valueOf_43 : decode mX6_valueOf.2.1 43 = .ok (.iload 6, 2) := by decide +kernel
theorem dX6_valueOf_45 : decode mX6_valueOf.2.1 45 = .ok (.iload 4, 2) := by decide +kernel
theorem dX6_valueOf_47 : decode mX6_valueOf.2.1 47 = .ok (.if_icmp .ge 183, 3) := by decide +kernel
theorem dX6_valueOf_50 : decode mX6_valueOf.2.1 50 = .ok (.aload_n 0, 1) := by decide +kernel
theorem dX6_valueOf_51 : decode mX6_valueOf.2.1 51 = .ok (.getfield 37, 3) := by decide +kernel
theorem dX6_valueOf_54 : decode mX6_valueOf.2.1 54 = .ok (.getfield 122, 3) := by decide +kernel
theorem dX6_valueOf_57 : decode mX6_valueOf.2.1 57 = .ok (.iload 6, 2) := by decide +kernel
theorem dX6_valueOf_59 : decode mX6_valueOf.2.1 59 = .ok (.iaload, 1) := by decide +kernel
theorem dX6_valueOf_60 : decode mX6_valueOf.2.1 60 = .ok (.bipush 14, 2) := by decide +kernel
theorem dX6_valueOf_62 : decode mX6_valueOf.2.1 62 = .ok (.ishr, 1) := by decide +kernel
theorem dX6_valueOf_63 : decode mX6_valueOf.2.1 63 = .ok (.istore 7, 2) := by decide +kernel
theorem dX6_valueOf_65 : decode mX6_valueOf.2.1 65 = .ok (.iload 7, 2) := by decide +kernel
theorem dX6_valueOf_67 : decode mX6_valueOf.2.1 67 = .ok (.iconst 1, 1) := by decide +kernel
theorem dX6_valueOf_68 : decode mX6_valueOf.2.1 68 = .ok (.if_icmp .gt 7, 3) := by decide +kernel
theorem dX6_valueOf_71 : decode mX6_valueOf.2.1 71 = .ok (.iconst 0, 1) := by decide +kernel
theorem dX6_valueOf_72 : decode mX6_valueOf.2.1 72 = .ok (.goto 26, 3) := by decide +kernel
theorem dX6_valueOf_75 : decode mX6_valueOf.2.1 75 = .ok (.iload 7, 2) := by decide +kernel
theorem dX6_valueOf_77 : decode mX6_valueOf.2.1 77 = .ok (.bipush 14, 2) := by decide +kernel
theorem dX6_valueOf_79 : decode mX6_valueOf.2.1 79 = .ok (.if_icmp .ne 7, 3) := by decide +kernel
theorem dX6_valueOf_82 : decode mX6_valueOf.2.1 82 = .ok (.iconst 1, 1) := by decide +kernel
theorem dX6_valueOf_83 : decode mX6_valueOf.2.1 83 = .ok (.goto 15, 3) := by decide +kernel
theorem dX6_valueOf_86 : decode mX6_valueOf.2.1 86 = .ok (.iload 7, 2) := by decide +kernel
theorem dX6_valueOf_88 : decode mX6_valueOf.2.1 88 = .ok (.bipush 15, 2) := by decide +kernel
theorem dX6_valueOf_90 : decode mX6_valueOf.2.1 90 = .ok (.if_icmp .ne 7, 3) := by decide +kernel
theorem dX6_valueOf_93 : decode mX6_valueOf.2.1 93 = .ok (.iconst 3, 1) := by decide +kernel
theorem dX6_valueOf_94 : decode mX6_valueOf.2.1 94 = .ok (.goto 4, 3) := by decide +kernel
theorem dX6_valueOf_97 : decode mX6_valueOf.2.1 97 = .ok (.iconst 2, 1) := by decide +kernel
theorem dX6_valueOf_98 : decode mX6_valueOf.2.1 98 = .ok (.istore 8, 2) := by decide +kernel
theorem dX6_valueOf_100 : decode mX6_valueOf.2.1 100 = .ok (.iload 5, 2) := by decide +kernel
theorem dX6_valueOf_102 : decode mX6_valueOf.2.1 102 = .ok (.iload 8, 2) := by decide +kernel
theorem dX6_valueOf_104 : decode mX6_valueOf.2.1 104 = .ok (.if_icmp .lt 13, 3) := by decide +kernel
theorem dX6_valueOf_107 : decode mX6_valueOf.2.1 107 = .ok (.iload 5, 2) := by decide +kernel
theorem dX6_valueOf_109 : decode mX6_valueOf.2.1 109 = .ok (.iload 8, 2) := by decide +kernel
theorem dX6_valueOf_111 : decode mX6_valueOf.2.1 111 = .ok (.isub, 1) := by decide +kernel
theorem dX6_valueOf_112 : decode mX6_valueOf.2.1 112 = .ok (.bipush 64, 2) := by decide +kernel
theorem dX6_valueOf_114 : decode mX6_valueOf.2.1 114 = .ok (.if_icmp .lt 5, 3) := by decide +kernel
theorem dX6_valueOf_117 : decode mX6_valueOf.2.1 117 = .ok (.iload_n 2, 1) := by decide +kernel
theorem dX6_valueOf_118 : decode mX6_valueOf.2.1 118 = .ok (.ireturn, 1) := by decide +kernel
theorem dX6_valueOf_119 : decode mX6_valueOf.2.1 119 = .ok (.iload 5, 2) := by decide +kernel
theorem dX6_valueOf_121 : decode mX6_valueOf.2.1 121 = .ok (.iload 8, 2) := by decide +kernel
theorem dX6_valueOf_123 : decode mX6_valueOf.2.1 123 = .ok (.isub, 1) := by decide +kernel
theorem dX6_valueOf_124 : decode mX6_valueOf.2.1 124 = .ok (.istore 5, 2) := by decide +kernel
theorem dX6_valueOf_126 : decode mX6_valueOf.2.1 126 = .ok (.iload 8, 2) := by decide +kernel
theorem dX6_valueOf_128 : decode mX6_valueOf.2.1 128 = .ok (.ifCond .ne 33, 3) := by decide +kernel
theorem dX6_valueOf_131 : decode mX6_valueOf.2.1 131 = .ok (.aload_n 0, 1) := by decide +kernel
theorem dX6_valueOf_132 : decode mX6_valueOf.2.1 132 = .ok (.getfield 15, 3) := by decide +kernel
theorem dX6_valueOf_135 : decode mX6_valueOf.2.1 135 = .ok (.iload 5, 2) := by decide +kernel
theorem dX6_valueOf_137 : decode mX6_valueOf.2.1 137 = .ok (.aload_n 0, 1) := by decide +kernel
theorem dX6_valueOf_138 : decode mX6_valueOf.2.1 138 = .ok (.iload 7, 2) := by decide +kernel
theorem dX6_valueOf_140 : decode mX6_valueOf.2.1 140 = .ok (.aload_n 0, 1) := by decide +kernel
theorem dX6_valueOf_141 : decode mX6_valueOf.2.1 141 = .ok (.getfield 37, 3) := by decide +kernel
theorem dX6_valueOf_144 : decode mX6_valueOf.2.1 144 = .ok (.getfield 122, 3) := by decide +kernel
theorem dX6_valueOf_147 : decode mX6_valueOf.2.1 147 = .ok (.iload 6, 2) := by decide +kernel
theorem dX6_valueOf_149 : decode mX6_valueOf.2.1 149 = .ok (.iaload, 1) := by decide +kernel
theorem dX6_valueOf_150 : decode mX6_valueOf.2.1 150 = .ok (.sipush 16383, 3) := by decide +kernel
theorem dX6_valueOf_153 : decode mX6_valueOf.2.1 153 = .ok (.iand, 1) := by decide +kernel
theorem dX6_valueOf_154 : decode mX6_valueOf.2.1 154 = .ok (.invokevirtual 125, 3) := by decide +kernel
theorem dX6_valueOf_157 : decode mX6_valueOf.2.1 157 = .ok (.iastore, 1) := by decide +kernel
theorem dX6_valueOf_158 : decode mX6_valueOf.2.1 158 = .ok (.goto 63, 3) := by decide +kernel
theorem dX6_valueOf_161 : decode mX6_valueOf.2.1 161 = .ok (.iload 7, 2) := by decide +kernel
theorem dX6_valueOf_163 : decode mX6_valueOf.2.1 163 = .ok (.bipush 6, 2) := by decide +kernel
theorem dX6_valueOf_165 : decode mX6_valueOf.2.1 165 = .ok (.if_icmp .gt 41, 3) := by decide +kernel
theorem dX6_valueOf_168 : decode mX6_valueOf.2.1 168 = .ok (.aload_n 0, 1) := by decide +kernel
theorem dX6_valueOf_169 : decode mX6_valueOf.2.1 169 = .ok (.getfield 15, 3) := by decide +kernel
theorem dX6_valueOf_172 : decode mX6_valueOf.2.1 172 = .ok (.iload 5, 2) := by decide +kernel
theorem dX6_valueOf_174 : decode mX6_valueOf.2.1 174 = .ok (.iload 7, 2) := by decide +kernel
theorem dX6_valueOf_176 : decode mX6_valueOf.2.1 176 = .ok (.aload_n 0, 1) := by decide +kernel
theorem dX6_valueOf_177 : decode mX6_valueOf.2.1 177 = .ok (.getfield 15, 3) := by decide +kernel
theorem dX6_valueOf_180 : decode mX6_valueOf.2.1 180 = .ok (.iload 5, 2) := by decide +kernel
theorem dX6_valueOf_182 : decode mX6_valueOf.2.1 182 = .ok (.iaload, 1) := by decide +kernel
theorem dX6_valueOf_183 : decode mX6_valueOf.2.1 183 = .ok (.i2l, 1) := by decide +kernel
theorem dX6_valueOf_184 : decode mX6_valueOf.2.1 184 = .ok (.aload_n 0, 1) := by decide +kernel
theorem dX6_valueOf_185 : decode mX6_valueOf.2.1 185 = .ok (.getfield 15, 3) := by decide +kernel
theorem dX6_valueOf_188 : decode mX6_valueOf.2.1 188 = .ok (.iload 5, 2) := by decide +kernel
theorem dX6_valueOf_190 : decode mX6_valueOf.2.1 190 = .ok (.iconst 1, 1) := by decide +kernel
theorem dX6_valueOf_191 : decode mX6_valueOf.2.1 191 = .ok (.iadd, 1) := by decide +kernel
theorem dX6_valueOf_192 : decode mX6_valueOf.2.1 192 = .ok (.bipush 63, 2) := by decide +kernel
theorem dX6_valueOf_194 : decode mX6_valueOf.2.1 194 = .ok (.invokestatic 71, 3) := by decide +kernel
theorem dX6_valueOf_197 : decode mX6_valueOf.2.1 197 = .ok (.iaload, 1) := by decide +kernel
theorem dX6_valueOf_198 : decode mX6_valueOf.2.1 198 = .ok (.i2l, 1) := by decide +kernel
theorem dX6_valueOf_199 : decode mX6_valueOf.2.1 199 = .ok (.invokestatic 128, 3) := by decide +kernel
theorem dX6_valueOf_202 : decode mX6_valueOf.2.1 202 = .ok (.iastore, 1) := by decide +kernel
theorem dX6_valueOf_203 : decode mX6_valueOf.2.1 203 = .ok (.goto 18, 3) := by decide +kernel
theorem dX6_valueOf_206 : decode mX6_valueOf.2.1 206 = .ok (.aload_n 0, 1) := by decide +kernel
theorem dX6_valueOf_207 : decode mX6_valueOf.2.1 207 = .ok (.getfield 15, 3) := by decide +kernel
theorem dX6_valueOf_210 : decode mX6_valueOf.2.1 210 = .ok (.iload 5, 2) := by decide +kernel
theorem dX6_valueOf_212 : decode mX6_valueOf.2.1 212 = .ok (.aload_n 0, 1) := by decide +kernel
theorem dX6_valueOf_213 : decode mX6_valueOf.2.1 213 = .ok (.iload 7, 2) := by decide +kernel
theorem dX6_valueOf_215 : decode mX6_valueOf.2.1 215 = .ok (.iload 5, 2) := by decide +kernel
theorem dX6_valueOf_217 : decode mX6_valueOf.2.1 217 = .ok (.invokevirtual 132, 3) := by decide +kernel
theorem dX6_valueOf_220 : decode mX6_valueOf.2.1 220 = .ok (.iastore, 1) := by decide +kernel
theorem dX6_valueOf_221 : decode mX6_valueOf.2.1 221 = .ok (.iinc 5 1, 3) := by decide +kernel
theorem dX6_valueOf_224 : decode mX6_valueOf.2.1 224 = .ok (.iinc 6 1, 3) := by decide +kernel
theorem dX6_valueOf_227 : decode mX6_valueOf.2.1 227 = .ok (.goto (-184), 3) := by decide +kernel
theorem dX6_valueOf_230 : decode mX6_valueOf.2.1 230 = .ok (.iload 5, 2) := by decide +kernel
theorem dX6_valueOf_232 : decode mX6_valueOf.2.1 232 = .ok (.ifCond .le 12, 3) := by decide +kernel
theorem dX6_valueOf_235 : decode mX6_valueOf.2.1 235 = .ok (.aload_n 0, 1) := by decide +kernel
theorem dX6_valueOf_236 : decode mX6_valueOf.2.1 236 = .ok (.getfield 15, 3) := by decide +kernel
theorem dX6_valueOf_239 : decode mX6_valueOf.2.1 239 = .ok (.iconst 0, 1) := by decide +kernel
theorem dX6_valueOf_240 : decode mX6_valueOf.2.1 240 = .ok (.iaload, 1) := by decide +kernel
theorem dX6_valueOf_241 : decode mX6_valueOf.2.1 241 = .ok (.goto 4, 3) := by decide +kernel
theorem dX6_valueOf_244 : decode mX6_valueOf.2.1 244 = .ok (.iload_n 2, 1) := by decide +kernel
theorem dX6_valueOf_245 : decode mX6_valueOf.2.1 245 = .ok (.ireturn, 1) := by decide +kernel
abbrev mX6_put : aM := (yX6_put, cX6_put, 3, (some .int))
theorem dX6_put_0 : decode mX6_put.2.1 0 = .ok (.iload_n 1, 1) := by decide +kernel
theorem dX6_put_1 : decode mX6_put.2.1 1 = .ok (.ifCond .eq 12, 3) := by decide +kernel
theorem dX6_put_4 : decode mX6_put.2.1 4 = .ok (.iload_n 2, 1) := by decide +kernel
theorem dX6_put_5 : decode mX6_put.2.1 5 = .ok (.aload_n 0, 1) := by decide +kernel
theorem dX6_put_6 : decode mX6_put.2.1 6 = .ok (.getfield 9, 3) := by decide +kernel
theorem dX6_put_9 : decode mX6_put.2.1 9 = .ok (.arraylength, 1) := by decide +kernel
theorem dX6_put_10 : decode mX6_put.2.1 10 = .ok (.if_icmp .lt 7, 3) := by decide +kernel
theorem dX6_put_13 : decode mX6_put.2.1 13 = .ok (.iload_n 2, 1) := by decide +kernel
theorem dX6_put_14 : decode mX6_put.2.1 14 = .ok (.goto 9, 3) := by decide +kernel
theorem dX6_put_17 : decode mX6_put.2.1 17 = .ok (.aload_n 0, 1) := by decide +kernel
theorem dX6_put_18 : decode mX6_put.2.1 18 = .ok (.getfield 9, 3) := by decide +kernel
theorem dX6_put_21 : decode mX6_put.2.1 21 = .ok (.iload_n 2, 1) := by decide +kernel
theorem dX6_put_22 : decode mX6_put.2.1 22 = .ok (.iaload, 1) := by decide +kernel
theorem dX6_put_23 : decode mX6_put.2.1 23 = .ok (.ireturn, 1) := by decide +kernel
abbrev mX6_weigh : aM := (yX6_weigh, cX6_weigh, 5, (some .int))
theorem dX6_weigh_0 : decode mX6_weigh.2.1 0 = .ok (.aload_n 0, 1) := by decide +kernel
theorem dX6_weigh_1 : decode mX6_weigh.2.1 1 = .ok (.getfield 15, 3) := by decide +kernel
theorem dX6_weigh_4 : decode mX6_weigh.2.1 4 = .ok (.iload_n 2, 1) := by decide +kernel
theorem dX6_weigh_5 : decode mX6_weigh.2.1 5 = .ok (.iaload, 1) := by decide +kernel
theorem dX6_weigh_6 : decode mX6_weigh.2.1 6 = .ok (.istore_n 3, 1) := by decide +kernel
theorem dX6_weigh_7 : decode mX6_weigh.2.1 7 = .ok (.aload_n 0, 1) := by decide +kernel
theorem dX6_weigh_8 : decode mX6_weigh.2.1 8 = .ok (.getfield 15, 3) := by decide +kernel
theorem dX6_weigh_11 : decode mX6_weigh.2.1 11 = .ok (.iload_n 2, 1) := by decide +kernel
theorem dX6_weigh_12 : decode mX6_weigh.2.1 12 = .ok (.iconst 1, 1) := by decide +kernel
theorem dX6_weigh_13 : decode mX6_weigh.2.1 13 = .ok (.iadd, 1) := by decide +kernel
theorem dX6_weigh_14 : decode mX6_weigh.2.1 14 = .ok (.bipush 63, 2) := by decide +kernel
theorem dX6_weigh_16 : decode mX6_weigh.2.1 16 = .ok (.invokestatic 71, 3) := by decide +kernel
theorem dX6_weigh_19 : decode mX6_weigh.2.1 19 = .ok (.iaload, 1) := by decide +kernel
theorem dX6_weigh_20 : decode mX6_weigh.2.1 20 = .ok (.istore 4, 2) := by decide +kernel
theorem dX6_weigh_22 : decode mX6_weigh.2.1 22 = .ok (.iload_n 1, 1) := by decide +kernel
theorem dX6_weigh_23 : decode mX6_weigh.2.1 23 = .ok (.tableswitch 109 7 14 #[45, 52, 59, 71, 83, 95, 100, 105], 45) := by decide +kernel
theorem dX6_weigh_68 : decode mX6_weigh.2.1 68 = .ok (.iload_n 3, 1) := by decide +kernel
theorem dX6_weigh_69 : decode mX6_weigh.2.1 69 = .ok (.iload 4, 2) := by decide +kernel
theorem dX6_weigh_71 : decode mX6_weigh.2.1 71 = .ok (.invokestatic 71, 3) := by decide +kernel
theorem dX6_weigh_74 : decode mX6_weigh.2.1 74 = .ok (.ireturn, 1) := by decide +kernel
theorem dX6_weigh_75 : decode mX6_weigh.2.1 75 = .ok (.iload_n 3, 1) := by decide +kernel
theorem dX6_weigh_76 : decode mX6_weigh.2.1 76 = .ok (.iload 4, 2) := by decide +kernel
theorem dX6_weigh_78 : decode mX6_weigh.2.1 78 = .ok (.invokestatic 66, 3) := by decide +kernel
theorem dX6_weigh_81 : decode mX6_weigh.2.1 81 = .ok (.ireturn, 1) := by decide +kernel
theorem dX6_weigh_82 : decode mX6_weigh.2.1 82 = .ok (.iload_n 3, 1) := by decide +kernel
theorem dX6_weigh_83 : decode mX6_weigh.2.1 83 = .ok (.iload 4, 2) := by decide +kernel
theorem dX6_weigh_85 : decode mX6_weigh.2.1 85 = .ok (.if_icmp .ge 7, 3) := by decide +kernel
theorem dX6_weigh_88 : decode mX6_weigh.2.1 88 = .ok (.iconst 1, 1) := by decide +kernel
theorem dX6_weigh_89 : decode mX6_weigh.2.1 89 = .ok (.goto 4, 3) := by decide +kernel
theorem dX6_weigh_92 : decode mX6_weigh.2.1 92 = .ok (.iconst 0, 1) := by decide +kernel
theorem dX6_weigh_93 : decode mX6_weigh.2.1 93 = .ok (.ireturn, 1) := by decide +kernel
theorem dX6_weigh_94 : decode mX6_weigh.2.1 94 = .ok (.iload_n 3, 1) := by decide +kernel
theorem dX6_weigh_95 : decode mX6_weigh.2.1 95 = .ok (.iload 4, 2) := by decide +kernel
theorem dX6_weigh_97 : decode mX6_weigh.2.1 97 = .ok (.if_icmp .le 7, 3) := by decide +kernel
theorem dX6_weigh_100 : decode mX6_weigh.2.1 100 = .ok (.iconst 1, 1) := by decide +kernel
theorem dX6_weigh_101 : decode mX6_weigh.2.1 101 = .ok (.goto 4, 3) := by decide +kernel
theorem dX6_weigh_104 : decode mX6_weigh.2.1 104 = .ok (.iconst 0, 1) := by decide +kernel
theorem dX6_weigh_105 : decode mX6_weigh.2.1 105 = .ok (.ireturn, 1) := by decide +kernel
theorem dX6_weigh_106 : decode mX6_weigh.2.1 106 = .ok (.iload_n 3, 1) := by decide +kernel
theorem dX6_weigh_107 : decode mX6_weigh.2.1 107 = .ok (.iload 4, 2) := by decide +kernel
theorem dX6_weigh_109 : decode mX6_weigh.2.1 109 = .ok (.if_icmp .ne 7, 3) := by decide +kernel
theorem dX6_weigh_112 : decode mX6_weigh.2.1 112 = .ok (.iconst 1, 1) := by decide +kernel
theorem dX6_weigh_113 : decode mX6_weigh.2.1 113 = .ok (.goto 4, 3) := by decide +kernel
theorem dX6_weigh_116 : decode mX6_weigh.2.1 116 = .ok (.iconst 0, 1) := by decide +kernel
theorem dX6_weigh_117 : decode mX6_weigh.2.1 117 = .ok (.ireturn, 1) := by decide +kernel
theorem dX6_weigh_118 : decode mX6_weigh.2.1 118 = .ok (.iload_n 3, 1) := by decide +kernel
theorem dX6_weigh_119 : decode mX6_weigh.2.1 119 = .ok (.iload 4, 2) := by decide +kernel
theorem dX6_weigh_121 : decode mX6_weigh.2.1 121 = .ok (.ior, 1) := by decide +kernel
theorem dX6_weigh_122 : decode mX6_weigh.2.1 122 = .ok (.ireturn, 1) := by decide +kernel
theorem dX6_weigh_123 : decode mX6_weigh.2.1 123 = .ok (.iload_n 3, 1) := by decide +kernel
theorem dX6_weigh_124 : decode mX6_weigh.2.1 124 = .ok (.iload 4, 2) := by decide +kernel
theorem dX6_weigh_126 : decode mX6_weigh.2.1 126 = .ok (.iand, 1) := by decide +kernel
theorem dX6_weigh_127 : decode mX6_weigh.2.1 127 = .ok (.ireturn, 1) := by decide +kernel
theorem dX6_weigh_128 : decode mX6_weigh.2.1 128 = .ok (.iconst 1, 1) := by decide +kernel
theorem dX6_weigh_129 : decode mX6_weigh.2.1 129 = .ok (.iload_n 3, 1) := by decide +kernel
theorem dX6_weigh_130 : decode mX6_weigh.2.1 130 = .ok (.isub, 1) := by decide +kernel
theorem dX6_weigh_131 : decode mX6_weigh.2.1 131 = .ok (.ireturn, 1) := by decide +kernel
theorem dX6_weigh_132 : decode mX6_weigh.2.1 132 = .ok (.iload_n 3, 1) := by decide +kernel
theorem dX6_weigh_133 : decode mX6_weigh.2.1 133 = .ok (.ifCond .eq 8, 3) := by decide +kernel
theorem dX6_weigh_136 : decode mX6_weigh.2.1 136 = .ok (.iload 4, 2) := by decide +kernel
theorem dX6_weigh_138 : decode mX6_weigh.2.1 138 = .ok (.goto 16, 3) := by decide +kernel
theorem dX6_weigh_141 : decode mX6_weigh.2.1 141 = .ok (.aload_n 0, 1) := by decide +kernel
theorem dX6_weigh_142 : decode mX6_weigh.2.1 142 = .ok (.getfield 15, 3) := by decide +kernel
theorem dX6_weigh_145 : decode mX6_weigh.2.1 145 = .ok (.iload_n 2, 1) := by decide +kernel
theorem dX6_weigh_146 : decode mX6_weigh.2.1 146 = .ok (.iconst 2, 1) := by decide +kernel
theorem dX6_weigh_147 : decode mX6_weigh.2.1 147 = .ok (.iadd, 1) := by decide +kernel
theorem dX6_weigh_148 : decode mX6_weigh.2.1 148 = .ok (.bipush 63, 2) := by decide +kernel
theorem dX6_weigh_150 : decode mX6_weigh.2.1 150 = .ok (.invokestatic 71, 3) := by decide +kernel
theorem dX6_weigh_153 : decode mX6_weigh.2.1 153 = .ok (.iaload, 1) := by decide +kernel
theorem dX6_weigh_154 : decode mX6_weigh.2.1 154 = .ok (.ireturn, 1) := by decide +kernel
abbrev mX6_reckon : aM := (yX6_reckon, cX6_reckon, 7, (some .int))
theorem dX6_reckon_0 : decode mX6_reckon.2.1 0 = .ok (.lconst 0, 1) := by decide +kernel
theorem dX6_reckon_1 : decode mX6_reckon.2.1 1 = .ok (.lstore 5, 2) := by decide +kernel
theorem dX6_reckon_3 : decode mX6_reckon.2.1 3 = .ok (.iload_n 0, 1) := by decide +kernel
theorem dX6_reckon_4 : decode mX6_reckon.2.1 4 = .ok (.iconst 2, 1) := by decide +kernel
theorem dX6_reckon_5 : decode mX6_reckon.2.1 5 = .ok (.if_icmp .ne 11, 3) := by decide +kernel
theorem dX6_reckon_8 : decode mX6_reckon.2.1 8 = .ok (.lload_n 1, 1) := by decide +kernel
theorem dX6_reckon_9 : decode mX6_reckon.2.1 9 = .ok (.lload_n 3, 1) := by decide +kernel
theorem dX6_reckon_10 : decode mX6_reckon.2.1 10 = .ok (.ladd, 1) := by decide +kernel
theorem dX6_reckon_11 : decode mX6_reckon.2.1 11 = .ok (.lstore 5, 2) := by decide +kernel
theorem dX6_reckon_13 : decode mX6_reckon.2.1 13 = .ok (.goto 55, 3) := by decide +kernel
theorem dX6_reckon_16 : decode mX6_reckon.2.1 16 = .ok (.iload_n 0, 1) := by decide +kernel
theorem dX6_reckon_17 : decode mX6_reckon.2.1 17 = .ok (.iconst 3, 1) := by decide +kernel
theorem dX6_reckon_18 : decode mX6_reckon.2.1 18 = .ok (.if_icmp .ne 11, 3) := by decide +kernel
theorem dX6_reckon_21 : decode mX6_reckon.2.1 21 = .ok (.lload_n 1, 1) := by decide +kernel
theorem dX6_reckon_22 : decode mX6_reckon.2.1 22 = .ok (.lload_n 3, 1) := by decide +kernel
theorem dX6_reckon_23 : decode mX6_reckon.2.1 23 = .ok (.lsub, 1) := by decide +kernel
theorem dX6_reckon_24 : decode mX6_reckon.2.1 24 = .ok (.lstore 5, 2) := by decide +kernel
theorem dX6_reckon_26 : decode mX6_reckon.2.1 26 = .ok (.goto 42, 3) := by decide +kernel
theorem dX6_reckon_29 : decode mX6_reckon.2.1 29 = .ok (.iload_n 0, 1) := by decide +kernel
theorem dX6_reckon_30 : decode mX6_reckon.2.1 30 = .ok (.iconst 4, 1) := by decide +kernel
theorem dX6_reckon_31 : decode mX6_reckon.2.1 31 = .ok (.if_icmp .ne 11, 3) := by decide +kernel
theorem dX6_reckon_34 : decode mX6_reckon.2.1 34 = .ok (.lload_n 1, 1) := by decide +kernel
theorem dX6_reckon_35 : decode mX6_reckon.2.1 35 = .ok (.lload_n 3, 1) := by decide +kernel
theorem dX6_reckon_36 : decode mX6_reckon.2.1 36 = .ok (.lmul, 1) := by decide +kernel
theorem dX6_reckon_37 : decode mX6_reckon.2.1 37 = .ok (.lstore 5, 2) := by decide +kernel
theorem dX6_reckon_39 : decode mX6_reckon.2.1 39 = .ok (.goto 29, 3) := by decide +kernel
theorem dX6_reckon_42 : decode mX6_reckon.2.1 42 = .ok (.lload_n 3, 1) := by decide +kernel
theorem dX6_reckon_43 : decode mX6_reckon.2.1 43 = .ok (.lconst 0, 1) := by decide +kernel
theorem dX6_reckon_44 : decode mX6_reckon.2.1 44 = .ok (.lcmp, 1) := by decide +kernel
theorem dX6_reckon_45 : decode mX6_reckon.2.1 45 = .ok (.ifCond .eq 23, 3) := by decide +kernel
theorem dX6_reckon_48 : decode mX6_reckon.2.1 48 = .ok (.iload_n 0, 1) := by decide +kernel
theorem dX6_reckon_49 : decode mX6_reckon.2.1 49 = .ok (.iconst 5, 1) := by decide +kernel
theorem dX6_reckon_50 : decode mX6_reckon.2.1 50 = .ok (.if_icmp .ne 11, 3) := by decide +kernel
theorem dX6_reckon_53 : decode mX6_reckon.2.1 53 = .ok (.lload_n 1, 1) := by decide +kernel
theorem dX6_reckon_54 : decode mX6_reckon.2.1 54 = .ok (.lload_n 3, 1) := by decide +kernel
theorem dX6_reckon_55 : decode mX6_reckon.2.1 55 = .ok (.invokestatic 135, 3) := by decide +kernel
theorem dX6_reckon_58 : decode mX6_reckon.2.1 58 = .ok (.goto 8, 3) := by decide +kernel
theorem dX6_reckon_61 : decode mX6_reckon.2.1 61 = .ok (.lload_n 1, 1) := by decide +kernel
theorem dX6_reckon_62 : decode mX6_reckon.2.1 62 = .ok (.lload_n 3, 1) := by decide +kernel
theorem dX6_reckon_63 : decode mX6_reckon.2.1 63 = .ok (.invokestatic 139, 3) := by decide +kernel
theorem dX6_reckon_66 : decode mX6_reckon.2.1 66 = .ok (.lstore 5, 2) := by decide +kernel
theorem dX6_reckon_68 : decode mX6_reckon.2.1 68 = .ok (.lload 5, 2) := by decide +kernel
theorem dX6_reckon_70 : decode mX6_reckon.2.1 70 = .ok (.ldc2_w 142, 3) := by decide +kernel
theorem dX6_reckon_73 : decode mX6_reckon.2.1 73 = .ok (.lcmp, 1) := by decide +kernel
theorem dX6_reckon_74 : decode mX6_reckon.2.1 74 = .ok (.ifCond .le 6, 3) := by decide +kernel
theorem dX6_reckon_77 : decode mX6_reckon.2.1 77 = .ok (.ldc 144, 2) := by decide +kernel
theorem dX6_reckon_79 : decode mX6_reckon.2.1 79 = .ok (.ireturn, 1) := by decide +kernel
theorem dX6_reckon_80 : decode mX6_reckon.2.1 80 = .ok (.lload 5, 2) := by decide +kernel
theorem dX6_reckon_82 : decode mX6_reckon.2.1 82 = .ok (.ldc2_w 145, 3) := by decide +kernel
theorem dX6_reckon_85 : decode mX6_reckon.2.1 85 = .ok (.lcmp, 1) := by decide +kernel
theorem dX6_reckon_86 : decode mX6_reckon.2.1 86 = .ok (.ifCond .ge 8, 3) := by decide +kernel
theorem dX6_reckon_89 : decode mX6_reckon.2.1 89 = .ok (.ldc 147, 2) := by decide +kernel
theorem dX6_reckon_91 : decode mX6_reckon.2.1 91 = .ok (.goto 6, 3) := by decide +kernel
theorem dX6_reckon_94 : decode mX6_reckon.2.1 94 = .ok (.lload 5, 2) := by decide +kernel
theorem dX6_reckon_96 : decode mX6_reckon.2.1 96 = .ok (.l2i, 1) := by decide +kernel
theorem dX6_reckon_97 : decode mX6_reckon.2.1 97 = .ok (.ireturn, 1) := by decide +kernel
abbrev mX7_init : aM := (yX7_init, cX7_init, 3, none)
theorem dX7_init_0 : decode mX7_init.2.1 0 = .ok (.aload_n 0, 1) := by decide +kernel
theorem dX7_init_1 : decode mX7_init.2.1 1 = .ok (.invokespecial 3, 3) := by decide +kernel
theorem dX7_init_4 : decode mX7_init.2.1 4 = .ok (.aload_n 0, 1) := by decide +kernel
theorem dX7_init_5 : decode mX7_init.2.1 5 = .ok (.iconst 0, 1) := by decide +kernel
theorem dX7_init_6 : decode mX7_init.2.1 6 = .ok (.putfield 9, 3) := by decide +kernel
theorem dX7_init_9 : decode mX7_init.2.1 9 = .ok (.aload_n 0, 1) := by decide +kernel
theorem dX7_init_10 : decode mX7_init.2.1 10 = .ok (.bipush 48, 2) := by decide +kernel
theorem dX7_init_12 : decode mX7_init.2.1 12 = .ok (.newarray .int, 2) := by decide +kernel
theorem dX7_init_14 : decode mX7_init.2.1 14 = .ok (.putfield 15, 3) := by decide +kernel
theorem dX7_init_17 : decode mX7_init.2.1 17 = .ok (.aload_n 0, 1) := by decide +kernel
theorem dX7_init_18 : decode mX7_init.2.1 18 = .ok (.iconst (-1), 1) := by decide +kernel
theorem dX7_init_19 : decode mX7_init.2.1 19 = .ok (.putfield 19, 3) := by decide +kernel
theorem dX7_init_22 : decode mX7_init.2.1 22 = .ok (.aload_n 0, 1) := by decide +kernel
theorem dX7_init_23 : decode mX7_init.2.1 23 = .ok (.iconst (-1), 1) := by decide +kernel
theorem dX7_init_24 : decode mX7_init.2.1 24 = .ok (.putfield 22, 3) := by decide +kernel
theorem dX7_init_27 : decode mX7_init.2.1 27 = .ok (.aload_n 0, 1) := by decide +kernel
theorem dX7_init_28 : decode mX7_init.2.1 28 = .ok (.sipush 246, 3) := by decide +kernel
theorem dX7_init_31 : decode mX7_init.2.1 31 = .ok (.newarray .int, 2) := by decide +kernel
theorem dX7_init_33 : decode mX7_init.2.1 33 = .ok (.putfield 25, 3) := by decide +kernel
theorem dX7_init_36 : decode mX7_init.2.1 36 = .ok (.aload_n 0, 1) := by decide +kernel
theorem dX7_init_37 : decode mX7_init.2.1 37 = .ok (.aload_n 1, 1) := by decide +kernel
theorem dX7_init_38 : decode mX7_init.2.1 38 = .ok (.putfield 28, 3) := by decide +kernel
theorem dX7_init_41 : decode mX7_init.2.1 41 = .ok (.aload_n 0, 1) := by decide +kernel
theorem dX7_init_42 : decode mX7_init.2.1 42 = .ok (.aload_n 2, 1) := by decide +kernel
theorem dX7_init_43 : decode mX7_init.2.1 43 = .ok (.putfield 32, 3) := by decide +kernel
theorem dX7_init_46 : decode mX7_init.2.1 46 = .ok (.return_, 1) := by decide +kernel
abbrev mX7_read : aM := (yX7_read, cX7_read, 7, (some .boolean))
theorem dX7_read_0 : decode mX7_read.2.1 0 = .ok (.iload_n 2, 1) := by decide +kernel
theorem dX7_read_1 : decode mX7_read.2.1 1 = .ok (.iconst 3, 1) := by decide +kernel
theorem dX7_read_2 : decode mX7_read.2.1 2 = .ok (.if_icmp .lt 24, 3) := by decide +kernel
theorem dX7_read_5 : decode mX7_read.2.1 5 = .ok (.iload_n 2, 1) := by decide +kernel
theorem dX7_read_6 : decode mX7_read.2.1 6 = .ok (.aload_n 0, 1) := by decide +kernel
theorem dX7_read_7 : decode mX7_read.2.1 7 = .ok (.getfield 15, 3) := by decide +kernel
theorem dX7_read_10 : decode mX7_read.2.1 10 = .ok (.arraylength, 1) := by decide +kernel
theorem dX7_read_11 : decode mX7_read.2.1 11 = .ok (.if_icmp .gt 15, 3) := by decide +kernel
theorem dX7_read_14 : decode mX7_read.2.1 14 = .ok (.iload_n 2, 1) := by decide +kernel
theorem dX7_read_15 : decode mX7_read.2.1 15 = .ok (.aload_n 1, 1) := by decide +kernel
theorem dX7_read_16 : decode mX7_read.2.1 16 = .ok (.arraylength, 1) := by decide +kernel
theorem dX7_read_17 : decode mX7_read.2.1 17 = .ok (.if_icmp .gt 9, 3) := by decide +kernel
theorem dX7_read_20 : decode mX7_read.2.1 20 = .ok (.iload_n 2, 1) := by decide +kernel
theorem dX7_read_21 : decode mX7_read.2.1 21 = .ok (.iconst 3, 1) := by decide +kernel
theorem dX7_read_22 : decode mX7_read.2.1 22 = .ok (.irem, 1) := by decide +kernel
theorem dX7_read_23 : decode mX7_read.2.1 23 = .ok (.ifCond .eq 5, 3) := by decide +kernel
theorem dX7_read_26 : decode mX7_read.2.1 26 = .ok (.iconst 0, 1) := by decide +kernel
theorem dX7_read_27 : decode mX7_read.2.1 27 = .ok (.ireturn, 1) := by decide +kernel
theorem dX7_read_28 : decode mX7_read.2.1 28 = .ok (.iconst 0, 1) := by decide +kernel
theorem dX7_read_29 : decode mX7_read.2.1 29 = .ok (.istore 4, 2) := by decide +kernel
theorem dX7_read_31 : decode mX7_read.2.1 31 = .ok (.iload 4, 2) := by decide +kernel
theorem dX7_read_33 : decode mX7_read.2.1 33 = .ok (.iload_n 2, 1) := by decide +kernel
theorem dX7_read_34 : decode mX7_read.2.1 34 = .ok (.if_icmp .ge 75, 3) := by decide +kernel
theorem dX7_read_37 : decode mX7_read.2.1 37 = .ok (.aload_n 1, 1) := by decide +kernel
theorem dX7_read_38 : decode mX7_read.2.1 38 = .ok (.iload 4, 2) := by decide +kernel
theorem dX7_read_40 : decode mX7_read.2.1 40 = .ok (.iconst 1, 1) := by decide +kernel
theorem dX7_read_41 : decode mX7_read.2.1 41 = .ok (.iadd, 1) := by decide +kernel
theorem dX7_read_42 : decode mX7_read.2.1 42 = .ok (.baload, 1) := by decide +kernel
theorem dX7_read_43 : decode mX7_read.2.1 43 = .ok (.sipush 255, 3) := by decide +kernel
theorem dX7_read_46 : decode mX7_read.2.1 46 = .ok (.iand, 1) := by decide +kernel
theorem dX7_read_47 : decode mX7_read.2.1 47 = .ok (.istore 5, 2) := by decide +kernel
theorem dX7_read_49 : decode mX7_read.2.1 49 = .ok (.aload_n 1, 1) := by decide +kernel
theorem dX7_read_50 : decode mX7_read.2.1 50 = .ok (.iload 4, 2) := by decide +kernel
theorem dX7_read_52 : decode mX7_read.2.1 52 = .ok (.baload, 1) := by decide +kernel
theorem dX7_read_53 : decode mX7_read.2.1 53 = .ok (.sipush 255, 3) := by decide +kernel
theorem dX7_read_56 : decode mX7_read.2.1 56 = .ok (.iand, 1) := by decide +kernel
theorem dX7_read_57 : decode mX7_read.2.1 57 = .ok (.iload_n 3, 1) := by decide +kernel
theorem dX7_read_58 : decode mX7_read.2.1 58 = .ok (.if_icmp .ge 35, 3) := by decide +kernel
theorem dX7_read_61 : decode mX7_read.2.1 61 = .ok (.iload 5, 2) := by decide +kernel
theorem dX7_read_63 : decode mX7_read.2.1 63 = .ok (.iconst 1, 1) := by decide +kernel
theorem dX7_read_64 : decode mX7_read.2.1 64 = .ok (.if_icmp .lt 29, 3) := by decide +kernel
theorem dX7_read_67 : decode mX7_read.2.1 67 = .ok (.iload 5, 2) := by decide +kernel
theorem dX7_read_69 : decode mX7_read.2.1 69 = .ok (.bipush 40, 2) := by decide +kernel
theorem dX7_read_71 : decode mX7_read.2.1 71 = .ok (.if_icmp .gt 22, 3) := by decide +kernel
theorem dX7_read_74 : decode mX7_read.2.1 74 = .ok (.aload_n 1, 1) := by decide +kernel
theorem dX7_read_75 : decode mX7_read.2.1 75 = .ok (.iload 4, 2) := by decide +kernel
theorem dX7_read_77 : decode mX7_read.2.1 77 = .ok (.iconst 2, 1) := by decide +kernel
theorem dX7_read_78 : decode mX7_read.2.1 78 = .ok (.iadd, 1) := by decide +kernel
theorem dX7_read_79 : decode mX7_read.2.1 79 = .ok (.baload, 1) := by decide +kernel
theorem dX7_read_80 : decode mX7_read.2.1 80 = .ok (.sipush 255, 3) := by decide +kernel
theorem dX7_read_83 : decode mX7_read.2.1 83 = .ok (.iand, 1) := by decide +kernel
theorem dX7_read_84 : decode mX7_read.2.1 84 = .ok (.bipush 99, 2) := by decide +kernel
theorem dX7_read_86 : decode mX7_read.2.1 86 = .ok (.if_icmp .gt 7, 3) := by decide +kernel
theorem dX7_read_89 : decode mX7_read.2.1 89 = .ok (.iconst 1, 1) := by decide +kernel
theorem dX7_read_90 : decode mX7_read.2.1 90 = .ok (.goto 4, 3) := by decide +kernel
theorem dX7_read_93 : decode mX7_read.2.1 93 = .ok (.iconst 0, 1) := by decide +kernel
theorem dX7_read_94 : decode mX7_read.2.1 94 = .ok (.istore 6, 2) := by decide +kernel
theorem dX7_read_96 : decode mX7_read.2.1 96 = .ok (.iload 6, 2) := by decide +kernel
theorem dX7_read_98 : decode mX7_read.2.1 98 = .ok (.ifCond .ne 5, 3) := by decide +kernel
theorem dX7_read_101 : decode mX7_read.2.1 101 = .ok (.iconst 0, 1) := by decide +kernel
theorem dX7_read_102 : decode mX7_read.2.1 102 = .ok (.ireturn, 1) := by decide +kernel
theorem dX7_read_103 : decode mX7_read.2.1 103 = .ok (.iinc 4 3, 3) := by decide +kernel
theorem dX7_read_106 : decode mX7_read.2.1 106 = .ok (.goto (-75), 3) := by decide +kernel
theorem dX7_read_109 : decode mX7_read.2.1 109 = .ok (.iconst 0, 1) := by decide +kernel
theorem dX7_read_110 : decode mX7_read.2.1 110 = .ok (.istore 4, 2) := by decide +kernel
theorem dX7_read_112 : decode mX7_read.2.1 112 = .ok (.iload 4, 2) := by decide +kernel
theorem dX7_read_114 : decode mX7_read.2.1 114 = .ok (.iload_n 2, 1) := by decide +kernel
theorem dX7_read_115 : decode mX7_read.2.1 115 = .ok (.if_icmp .ge 24, 3) := by decide +kernel
theorem dX7_read_118 : decode mX7_read.2.1 118 = .ok (.aload_n 0, 1) := by decide +kernel
theorem dX7_read_119 : decode mX7_read.2.1 119 = .ok (.getfield 15, 3) := by decide +kernel
theorem dX7_read_122 : decode mX7_read.2.1 122 = .ok (.iload 4, 2) := by decide +kernel
theorem dX7_read_124 : decode mX7_read.2.1 124 = .ok (.aload_n 1, 1) := by decide +kernel
theorem dX7_read_125 : decode mX7_read.2.1 125 = .ok (.iload 4, 2) := by decide +kernel
theorem dX7_read_127 : decode mX7_read.2.1 127 = .ok (.baload, 1) := by decide +kernel
theorem dX7_read_128 : decode mX7_read.2.1 128 = .ok (.sipush 255, 3) := by decide +kernel
theorem dX7_read_131 : decode mX7_read.2.1 131 = .ok (.iand, 1) := by decide +kernel
theorem dX7_read_132 : decode mX7_read.2.1 132 = .ok (.iastore, 1) := by decide +kernel
theorem dX7_read_133 : decode mX7_read.2.1 133 = .ok (.iinc 4 1, 3) := by decide +kernel
theorem dX7_read_136 : decode mX7_read.2.1 136 = .ok (.goto (-24), 3) := by decide +kernel
theorem dX7_read_139 : decode mX7_read.2.1 139 = .ok (.aload_n 0, 1) := by decide +kernel
theorem dX7_read_140 : decode mX7_read.2.1 140 = .ok (.iload_n 2, 1) := by decide +kernel
theorem dX7_read_141 : decode mX7_read.2.1 141 = .ok (.iconst 3, 1) := by decide +kernel
theorem dX7_read_142 : decode mX7_read.2.1 142 = .ok (.idiv, 1) := by decide +kernel
theorem dX7_read_143 : decode mX7_read.2.1 143 = .ok (.putfield 9, 3) := by decide +kernel
theorem dX7_read_146 : decode mX7_read.2.1 146 = .ok (.iconst 1, 1) := by decide +kernel
theorem dX7_read_147 : decode mX7_read.2.1 147 = .ok (.ireturn, 1) := by decide +kernel
abbrev mX7_stains : aM := (yX7_stains, cX7_stains, 3, (some .int))
theorem dX7_stains_0 : decode mX7_stains.2.1 0 = .ok (.iconst 0, 1) := by decide +kernel
theorem dX7_stains_1 : decode mX7_stains.2.1 1 = .ok (.istore_n 1, 1) := by decide +kernel
theorem dX7_stains_2 : decode mX7_stains.2.1 2 = .ok (.iconst 0, 1) := by decide +kernel
theorem dX7_stains_3 : decode mX7_stains.2.1 3 = .ok (.istore_n 2, 1) := by decide +kernel
theorem dX7_stains_4 : decode mX7_stains.2.1 4 = .ok (.iload_n 2, 1) := by decide +kernel
theorem dX7_stains_5 : decode mX7_stains.2.1 5 = .ok (.aload_n 0, 1) := by decide +kernel
theorem dX7_stains_6 : decode mX7_stains.2.1 6 = .ok (.getfield 28, 3) := by decide +kernel
theorem dX7_stains_9 : decode mX7_stains.2.1 9 = .ok (.getfield 36, 3) := by decide +kernel
theorem dX7_stains_12 : decode mX7_stains.2.1 12 = .ok (.getfield 42, 3) := by decide +kernel
theorem dX7_stains_15 : decode mX7_stains.2.1 15 = .ok (.iconst 1, 1) := by decide +kernel
theorem dX7_stains_16 : decode mX7_stains.2.1 16 = .ok (.iaload, 1) := by decide +kernel
theorem dX7_stains_17 : decode mX7_stains.2.1 17 = .ok (.if_icmp .ge 27, 3) := by decide +kernel
theorem dX7_stains_20 : decode mX7_stains.2.1 20 = .ok (.iload_n 1, 1) := by decide +kernel
theorem dX7_stains_21 : decode mX7_stains.2.1 21 = .ok (.aload_n 0, 1) := by decide +kernel
theorem dX7_stains_22 : decode mX7_stains.2.1 22 = .ok (.iload_n 2, 1) := by decide +kernel
theorem dX7_stains_23 : decode mX7_stains.2.1 23 = .ok (.invokevirtual 47, 3) := by decide +kernel
theorem dX7_stains_26 : decode mX7_stains.2.1 26 = .ok (.ifCond .eq 9, 3) := by decide +kernel
theorem dX7_stains_29 : decode mX7_stains.2.1 29 = .ok (.iconst 1, 1) := by decide +kernel
theorem dX7_stains_30 : decode mX7_stains.2.1 30 = .ok (.iload_n 2, 1) := by decide +kernel
theorem dX7_stains_31 : decode mX7_stains.2.1 31 = .ok (.ishl, 1) := by decide +kernel
theorem dX7_stains_32 : decode mX7_stains.2.1 32 = .ok (.goto 4, 3) := by decide +kernel
theorem dX7_stains_35 : decode mX7_stains.2.1 35 = .ok (.iconst 0, 1) := by decide +kernel
theorem dX7_stains_36 : decode mX7_stains.2.1 36 = .ok (.ior, 1) := by decide +kernel
theorem dX7_stains_37 : decode mX7_stains.2.1 37 = .ok (.istore_n 1, 1) := by decide +kernel
theorem dX7_stains_38 : decode mX7_stains.2.1 38 = .ok (.iinc 2 1, 3) := by decide +kernel
theorem dX7_stains_41 : decode mX7_stains.2.1 41 = .ok (.goto (-37), 3) := by decide +kernel
theorem dX7_stains_44 : decode mX7_stains.2.1 44 = .ok (.iload_n 1, 1) := by decide +kernel
theorem dX7_stains_45 : decode mX7_stains.2.1 45 = .ok (.ireturn, 1) := by decide +kernel
abbrev mX7_isSo : aM := (yX7_isSo, cX7_isSo, 3, (some .boolean))
theorem dX7_isSo_0 : decode mX7_isSo.2.1 0 = .ok (.iconst 0, 1) := by decide +kernel
theorem dX7_isSo_1 : decode mX7_isSo.2.1 1 = .ok (.istore_n 2, 1) := by decide +kernel
theorem dX7_isSo_2 : decode mX7_isSo.2.1 2 = .ok (.iload_n 2, 1) := by decide +kernel
theorem dX7_isSo_3 : decode mX7_isSo.2.1 3 = .ok (.iconst 3, 1) := by decide +kernel
theorem dX7_isSo_4 : decode mX7_isSo.2.1 4 = .ok (.aload_n 0, 1) := by decide +kernel
theorem dX7_isSo_5 : decode mX7_isSo.2.1 5 = .ok (.getfield 9, 3) := by decide +kernel
theorem dX7_isSo_8 : decode mX7_isSo.2.1 8 = .ok (.imul, 1) := by decide +kernel
theorem dX7_isSo_9 : decode mX7_isSo.2.1 9 = .ok (.if_icmp .ge 62, 3) := by decide +kernel
theorem dX7_isSo_12 : decode mX7_isSo.2.1 12 = .ok (.aload_n 0, 1) := by decide +kernel
theorem dX7_isSo_13 : decode mX7_isSo.2.1 13 = .ok (.getfield 28, 3) := by decide +kernel
theorem dX7_isSo_16 : decode mX7_isSo.2.1 16 = .ok (.aload_n 0, 1) := by decide +kernel
theorem dX7_isSo_17 : decode mX7_isSo.2.1 17 = .ok (.getfield 32, 3) := by decide +kernel
theorem dX7_isSo_20 : decode mX7_isSo.2.1 20 = .ok (.aload_n 0, 1) := by decide +kernel
theorem dX7_isSo_21 : decode mX7_isSo.2.1 21 = .ok (.getfield 15, 3) := by decide +kernel
theorem dX7_isSo_24 : decode mX7_isSo.2.1 24 = .ok (.iload_n 2, 1) := by decide +kernel
theorem dX7_isSo_25 : decode mX7_isSo.2.1 25 = .ok (.iaload, 1) := by decide +kernel
theorem dX7_isSo_26 : decode mX7_isSo.2.1 26 = .ok (.iload_n 1, 1) := by decide +kernel
theorem dX7_isSo_27 : decode mX7_isSo.2.1 27 = .ok (.invokevirtual 51, 3) := by decide +kernel
theorem dX7_isSo_30 : decode mX7_isSo.2.1 30 = .ok (.aload_n 0, 1) := by decide +kernel
theorem dX7_isSo_31 : decode mX7_isSo.2.1 31 = .ok (.getfield 28, 3) := by decide +kernel
theorem dX7_isSo_34 : decode mX7_isSo.2.1 34 = .ok (.aload_n 0, 1) := by decide +kernel
theorem dX7_isSo_35 : decode mX7_isSo.2.1 35 = .ok (.getfield 15, 3) := by decide +kernel
theorem dX7_isSo_38 : decode mX7_isSo.2.1 38 = .ok (.iload_n 2, 1) := by decide +kernel
theorem dX7_isSo_39 : decode mX7_isSo.2.1 39 = .ok (.iconst 1, 1) := by decide +kernel
theorem dX7_isSo_40 : decode mX7_isSo.2.1 40 = .ok (.iadd, 1) := by decide +kernel
theorem dX7_isSo_41 : decode mX7_isSo.2.1 41 = .ok (.iaload, 1) := by decide +kernel
theorem dX7_isSo_42 : decode mX7_isSo.2.1 42 = .ok (.invokevirtual 55, 3) := by decide +kernel
theorem dX7_isSo_45 : decode mX7_isSo.2.1 45 = .ok (.aload_n 0, 1) := by decide +kernel
theorem dX7_isSo_46 : decode mX7_isSo.2.1 46 = .ok (.getfield 28, 3) := by decide +kernel
theorem dX7_isSo_49 : decode mX7_isSo.2.1 49 = .ok (.getfield 59, 3) := by decide +kernel
theorem dX7_isSo_52 : decode mX7_isSo.2.1 52 = .ok (.aload_n 0, 1) := by decide +kernel
theorem dX7_isSo_53 : decode mX7_isSo.2.1 53 = .ok (.getfield 15, 3) := by decide +kernel
theorem dX7_isSo_56 : decode mX7_isSo.2.1 56 = .ok (.iload_n 2, 1) := by decide +kernel
theorem dX7_isSo_57 : decode mX7_isSo.2.1 57 = .ok (.iconst 2, 1) := by decide +kernel
theorem dX7_isSo_58 : decode mX7_isSo.2.1 58 = .ok (.iadd, 1) := by decide +kernel
theorem dX7_isSo_59 : decode mX7_isSo.2.1 59 = .ok (.iaload, 1) := by decide +kernel
theorem dX7_isSo_60 : decode mX7_isSo.2.1 60 = .ok (.if_icmp .eq 5, 3) := by decide +kernel
theorem dX7_isSo_63 : decode mX7_isSo.2.1 63 = .ok (.iconst 0, 1) := by decide +kernel
theorem dX7_isSo_64 : decode mX7_isSo.2.1 64 = .ok (.ireturn, 1) := by decide +kernel
theorem dX7_isSo_65 : decode mX7_isSo.2.1 65 = .ok (.iinc 2 3, 3) := by decide +kernel
theorem dX7_isSo_68 : decode mX7_isSo.2.1 68 = .ok (.goto (-66), 3) := by decide +kernel
theorem dX7_isSo_71 : decode mX7_isSo.2.1 71 = .ok (.iconst 1, 1) := by decide +kernel
theorem dX7_isSo_72 : decode mX7_isSo.2.1 72 = .ok (.ireturn, 1) := by decide +kernel
abbrev mX7_tell : aM := (yX7_tell, cX7_tell, 5, none)
theorem dX7_tell_0 : decode mX7_tell.2.1 0 = .ok (.iconst 0, 1) := by decide +kernel
theorem dX7_tell_1 : decode mX7_tell.2.1 1 = .ok (.istore_n 3, 1) := by decide +kernel
theorem dX7_tell_2 : decode mX7_tell.2.1 2 = .ok (.iload_n 3, 1) := by decide +kernel
theorem dX7_tell_3 : decode mX7_tell.2.1 3 = .ok (.bipush 6, 2) := by decide +kernel
theorem dX7_tell_5 : decode mX7_tell.2.1 5 = .ok (.if_icmp .ge 74, 3) := by decide +kernel
theorem dX7_tell_8 : decode mX7_tell.2.1 8 = .ok (.iload_n 2, 1) := by decide +kernel
theorem dX7_tell_9 : decode mX7_tell.2.1 9 = .ok (.iload_n 3, 1) := by decide +kernel
theorem dX7_tell_10 : decode mX7_tell.2.1 10 = .ok (.ishr, 1) := by decide +kernel
theorem dX7_tell_11 : decode mX7_tell.2.1 11 = .ok (.iconst 1, 1) := by decide +kernel
theorem dX7_tell_12 : decode mX7_tell.2.1 12 = .ok (.iand, 1) := by decide +kernel
theorem dX7_tell_13 : decode mX7_tell.2.1 13 = .ok (.iconst 1, 1) := by decide +kernel
theorem dX7_tell_14 : decode mX7_tell.2.1 14 = .ok (.if_icmp .ne 59, 3) := by decide +kernel
theorem dX7_tell_17 : decode mX7_tell.2.1 17 = .ok (.aload_n 0, 1) := by decide +kernel
theorem dX7_tell_18 : decode mX7_tell.2.1 18 = .ok (.getfield 28, 3) := by decide +kernel
theorem dX7_tell_21 : decode mX7_tell.2.1 21 = .ok (.aload_n 0, 1) := by decide +kernel
theorem dX7_tell_22 : decode mX7_tell.2.1 22 = .ok (.getfield 32, 3) := by decide +kernel
theorem dX7_tell_25 : decode mX7_tell.2.1 25 = .ok (.iload_n 1, 1) := by decide +kernel
theorem dX7_tell_26 : decode mX7_tell.2.1 26 = .ok (.iload_n 3, 1) := by decide +kernel
theorem dX7_tell_27 : decode mX7_tell.2.1 27 = .ok (.invokevirtual 51, 3) := by decide +kernel
theorem dX7_tell_30 : decode mX7_tell.2.1 30 = .ok (.iconst 1, 1) := by decide +kernel
theorem dX7_tell_31 : decode mX7_tell.2.1 31 = .ok (.istore 4, 2) := by decide +kernel
theorem dX7_tell_33 : decode mX7_tell.2.1 33 = .ok (.iload 4, 2) := by decide +kernel
theorem dX7_tell_35 : decode mX7_tell.2.1 35 = .ok (.bipush 40, 2) := by decide +kernel
theorem dX7_tell_37 : decode mX7_tell.2.1 37 = .ok (.if_icmp .gt 36, 3) := by decide +kernel
theorem dX7_tell_40 : decode mX7_tell.2.1 40 = .ok (.aload_n 0, 1) := by decide +kernel
theorem dX7_tell_41 : decode mX7_tell.2.1 41 = .ok (.getfield 28, 3) := by decide +kernel
theorem dX7_tell_44 : decode mX7_tell.2.1 44 = .ok (.iconst 1, 1) := by decide +kernel
theorem dX7_tell_45 : decode mX7_tell.2.1 45 = .ok (.invokevirtual 55, 3) := by decide +kernel
theorem dX7_tell_48 : decode mX7_tell.2.1 48 = .ok (.aload_n 0, 1) := by decide +kernel
theorem dX7_tell_49 : decode mX7_tell.2.1 49 = .ok (.getfield 25, 3) := by decide +kernel
theorem dX7_tell_52 : decode mX7_tell.2.1 52 = .ok (.iload_n 3, 1) := by decide +kernel
theorem dX7_tell_53 : decode mX7_tell.2.1 53 = .ok (.bipush 41, 2) := by decide +kernel
theorem dX7_tell_55 : decode mX7_tell.2.1 55 = .ok (.imul, 1) := by decide +kernel
theorem dX7_tell_56 : decode mX7_tell.2.1 56 = .ok (.iload 4, 2) := by decide +kernel
theorem dX7_tell_58 : decode mX7_tell.2.1 58 = .ok (.iadd, 1) := by decide +kernel
theorem dX7_tell_59 : decode mX7_tell.2.1 59 = .ok (.aload_n 0, 1) := by decide +kernel
theorem dX7_tell_60 : decode mX7_tell.2.1 60 = .ok (.getfield 28, 3) := by decide +kernel
theorem dX7_tell_63 : decode mX7_tell.2.1 63 = .ok (.getfield 59, 3) := by decide +kernel
theorem dX7_tell_66 : decode mX7_tell.2.1 66 = .ok (.iastore, 1) := by decide +kernel
theorem dX7_tell_67 : decode mX7_tell.2.1 67 = .ok (.iinc 4 1, 3) := by decide +kernel
theorem dX7_tell_70 : decode mX7_tell.2.1 70 = .ok (.goto (-37), 3) := by decide +kernel
theorem dX7_tell_73 : decode mX7_tell.2.1 73 = .ok (.iinc 3 1, 3) := by decide +kernel
theorem dX7_tell_76 : decode mX7_tell.2.1 76 = .ok (.goto (-74), 3) := by decide +kernel
theorem dX7_tell_79 : decode mX7_tell.2.1 79 = .ok (.aload_n 0, 1) := by decide +kernel
theorem dX7_tell_80 : decode mX7_tell.2.1 80 = .ok (.bipush 7, 2) := by decide +kernel
theorem dX7_tell_82 : decode mX7_tell.2.1 82 = .ok (.putfield 22, 3) := by decide +kernel
theorem dX7_tell_85 : decode mX7_tell.2.1 85 = .ok (.iconst 1, 1) := by decide +kernel
theorem dX7_tell_86 : decode mX7_tell.2.1 86 = .ok (.istore_n 3, 1) := by decide +kernel
theorem dX7_tell_87 : decode mX7_tell.2.1 87 = .ok (.iload_n 3, 1) := by decide +kernel
theorem dX7_tell_88 : decode mX7_tell.2.1 88 = .ok (.bipush 40, 2) := by decide +kernel
theorem dX7_tell_90 : decode mX7_tell.2.1 90 = .ok (.if_icmp .gt 37, 3) := by decide +kernel
theorem dX7_tell_93 : decode mX7_tell.2.1 93 = .ok (.aload_n 0, 1) := by decide +kernel
theorem dX7_tell_94 : decode mX7_tell.2.1 94 = .ok (.iload_n 3, 1) := by decide +kernel
theorem dX7_tell_95 : decode mX7_tell.2.1 95 = .ok (.iload_n 2, 1) := by decide +kernel
theorem dX7_tell_96 : decode mX7_tell.2.1 96 = .ok (.invokevirtual 62, 3) := by decide +kernel
theorem dX7_tell_99 : decode mX7_tell.2.1 99 = .ok (.istore 4, 2) := by decide +kernel
theorem dX7_tell_101 : decode mX7_tell.2.1 101 = .ok (.iload 4, 2) := by decide +kernel
theorem dX7_tell_103 : decode mX7_tell.2.1 103 = .ok (.aload_n 0, 1) := by decide +kernel
theorem dX7_tell_104 : decode mX7_tell.2.1 104 = .ok (.getfield 22, 3) := by decide +kernel
theorem dX7_tell_107 : decode mX7_tell.2.1 107 = .ok (.if_icmp .ge 14, 3) := by decide +kernel
theorem dX7_tell_110 : decode mX7_tell.2.1 110 = .ok (.aload_n 0, 1) := by decide +kernel
theorem dX7_tell_111 : decode mX7_tell.2.1 111 = .ok (.iload 4, 2) := by decide +kernel
theorem dX7_tell_113 : decode mX7_tell.2.1 113 = .ok (.putfield 22, 3) := by decide +kernel
theorem dX7_tell_116 : decode mX7_tell.2.1 116 = .ok (.aload_n 0, 1) := by decide +kernel
theorem dX7_tell_117 : decode mX7_tell.2.1 117 = .ok (.iload_n 3, 1) := by decide +kernel
theorem dX7_tell_118 : decode mX7_tell.2.1 118 = .ok (.putfield 19, 3) := by decide +kernel
theorem dX7_tell_121 : decode mX7_tell.2.1 121 = .ok (.iinc 3 1, 3) := by decide +kernel
theorem dX7_tell_124 : decode mX7_tell.2.1 124 = .ok (.goto (-37), 3) := by decide +kernel
theorem dX7_tell_127 : decode mX7_tell.2.1 127 = .ok (.return_, 1) := by decide +kernel
abbrev mX7_mostAlike : aM := (yX7_mostAlike, cX7_mostAlike, 9, (some .int))
theorem dX7_mostAlike_0 : decode mX7_mostAlike.2.1 0 = .ok (.iconst 0, 1) := by decide +kernel
theorem dX7_mostAlike_1 : decode mX7_mostAlike.2.1 1 = .ok (.istore_n 3, 1) := by decide +kernel
theorem dX7_mostAlike_2 : decode mX7_mostAlike.2.1 2 = .ok (.iconst 0, 1) := by decide +kernel
theorem dX7_mostAlike_3 : decode mX7_mostAlike.2.1 3 = .ok (.istore 4, 2) := by decide +kernel
theorem dX7_mostAlike_5 : decode mX7_mostAlike.2.1 5 = .ok (.iload 4, 2) := by decide +kernel
theorem dX7_mostAlike_7 : decode mX7_mostAlike.2.1 7 = .ok (.bipush 6, 2) := by decide +kernel
theorem dX7_mostAlike_9 : decode mX7_mostAlike.2.1 9 = .ok (.if_icmp .ge 108, 3) := by decide +kernel
theorem dX7_mostAlike_12 : decode mX7_mostAlike.2.1 12 = .ok (.iconst 0, 1) := by decide +kernel
theorem dX7_mostAlike_13 : decode mX7_mostAlike.2.1 13 = .ok (.istore 5, 2) := by decide +kernel
theorem dX7_mostAlike_15 : decode mX7_mostAlike.2.1 15 = .ok (.iconst 0, 1) := by decide +kernel
theorem dX7_mostAlike_16 : decode mX7_mostAlike.2.1 16 = .ok (.istore 6, 2) := by decide +kernel
theorem dX7_mostAlike_18 : decode mX7_mostAlike.2.1 18 = .ok (.iload 6, 2) := by decide +kernel
theorem dX7_mostAlike_20 : decode mX7_mostAlike.2.1 20 = .ok (.bipush 6, 2) := by decide +kernel
theorem dX7_mostAlike_22 : decode mX7_mostAlike.2.1 22 = .ok (.if_icmp .ge 82, 3) := by decide +kernel
theorem dX7_mostAlike_25 : decode mX7_mostAlike.2.1 25 = .ok (.iload_n 2, 1) := by decide +kernel
theorem dX7_mostAlike_26 : decode mX7_mostAlike.2.1 26 = .ok (.iload 4, 2) := by decide +kernel
theorem dX7_mostAlike_28 : decode mX7_mostAlike.2.1 28 = .ok (.ishr, 1) := by decide +kernel
theorem dX7_mostAlike_29 : decode mX7_mostAlike.2.1 29 = .ok (.iconst 1, 1) := by decide +kernel
theorem dX7_mostAlike_30 : decode mX7_mostAlike.2.1 30 = .ok (.iand, 1) := by decide +kernel
theorem dX7_mostAlike_31 : decode mX7_mostAlike.2.1 31 = .ok (.iconst 1, 1) := by decide +kernel
theorem dX7_mostAlike_32 : decode mX7_mostAlike.2.1 32 = .ok (.if_icmp .ne 17, 3) := by decide +kernel
theorem dX7_mostAlike_35 : decode mX7_mostAlike.2.1 35 = .ok (.iload_n 2, 1) := by decide +kernel
theorem dX7_mostAlike_36 : decode mX7_mostAlike.2.1 36 = .ok (.iload 6, 2) := by decide +kernel
theorem dX7_mostAlike_38 : decode mX7_mostAlike.2.1 38 = .ok (.ishr, 1) := by decide +kernel
theorem dX7_mostAlike_39 : decode mX7_mostAlike.2.1 39 = .ok (.iconst 1, 1) := by decide +kernel
theorem dX7_mostAlike_40 : decode mX7_mostAlike.2.1 40 = .ok (.iand, 1) := by decide +kernel
theorem dX7_mostAlike_41 : decode mX7_mostAlike.2.1 41 = .ok (.iconst 1, 1) := by decide +kernel
theorem dX7_mostAlike_42 : decode mX7_mostAlike.2.1 42 = .ok (.if_icmp .ne 7, 3) := by decide +kernel
theorem dX7_mostAlike_45 : decode mX7_mostAlike.2.1 45 = .ok (.iconst 1, 1) := by decide +kernel
theorem dX7_mostAlike_46 : decode mX7_mostAlike.2.1 46 = .ok (.goto 4, 3) := by decide +kernel
theorem dX7_mostAlike_49 : decode mX7_mostAlike.2.1 49 = .ok (.iconst 0, 1) := by decide +kernel
theorem dX7_mostAlike_50 : decode mX7_mostAlike.2.1 50 = .ok (.istore 7, 2) := by decide +kernel
theorem dX7_mostAlike_52 : decode mX7_mostAlike.2.1 52 = .ok (.bipush 41, 2) := by decide +kernel
theorem dX7_mostAlike_54 : decode mX7_mostAlike.2.1 54 = .ok (.istore 8, 2) := by decide +kernel
theorem dX7_mostAlike_56 : decode mX7_mostAlike.2.1 56 = .ok (.iload 5, 2) := by decide +kernel
theorem dX7_mostAlike_58 : decode mX7_mostAlike.2.1 58 = .ok (.iload 7, 2) := by decide +kernel
theorem dX7_mostAlike_60 : decode mX7_mostAlike.2.1 60 = .ok (.ifCond .eq 34, 3) := by decide +kernel
theorem dX7_mostAlike_63 : decode mX7_mostAlike.2.1 63 = .ok (.aload_n 0, 1) := by decide +kernel
theorem dX7_mostAlike_64 : decode mX7_mostAlike.2.1 64 = .ok (.getfield 25, 3) := by decide +kernel
theorem dX7_mostAlike_67 : decode mX7_mostAlike.2.1 67 = .ok (.iload 4, 2) := by decide +kernel
theorem dX7_mostAlike_69 : decode mX7_mostAlike.2.1 69 = .ok (.iload 8, 2) := by decide +kernel
theorem dX7_mostAlike_71 : decode mX7_mostAlike.2.1 71 = .ok (.imul, 1) := by decide +kernel
theorem dX7_mostAlike_72 : decode mX7_mostAlike.2.1 72 = .ok (.iload_n 1, 1) := by decide +kernel
theorem dX7_mostAlike_73 : decode mX7_mostAlike.2.1 73 = .ok (.iadd, 1) := by decide +kernel
theorem dX7_mostAlike_74 : decode mX7_mostAlike.2.1 74 = .ok (.iaload, 1) := by decide +kernel
theorem dX7_mostAlike_75 : decode mX7_mostAlike.2.1 75 = .ok (.aload_n 0, 1) := by decide +kernel
theorem dX7_mostAlike_76 : decode mX7_mostAlike.2.1 76 = .ok (.getfield 25, 3) := by decide +kernel
theorem dX7_mostAlike_79 : decode mX7_mostAlike.2.1 79 = .ok (.iload 6, 2) := by decide +kernel
theorem dX7_mostAlike_81 : decode mX7_mostAlike.2.1 81 = .ok (.iload 8, 2) := by decide +kernel
theorem dX7_mostAlike_83 : decode mX7_mostAlike.2.1 83 = .ok (.imul, 1) := by decide +kernel
theorem dX7_mostAlike_84 : decode mX7_mostAlike.2.1 84 = .ok (.iload_n 1, 1) := by decide +kernel
theorem dX7_mostAlike_85 : decode mX7_mostAlike.2.1 85 = .ok (.iadd, 1) := by decide +kernel
theorem dX7_mostAlike_86 : decode mX7_mostAlike.2.1 86 = .ok (.iaload, 1) := by decide +kernel
theorem dX7_mostAlike_87 : decode mX7_mostAlike.2.1 87 = .ok (.if_icmp .ne 7, 3) := by decide +kernel
theorem dX7_mostAlike_90 : decode mX7_mostAlike.2.1 90 = .ok (.iconst 1, 1) := by decide +kernel
theorem dX7_mostAlike_91 : decode mX7_mostAlike.2.1 91 = .ok (.goto 4, 3) := by decide +kernel
theorem dX7_mostAlike_94 : decode mX7_mostAlike.2.1 94 = .ok (.iconst 0, 1) := by decide +kernel
theorem dX7_mostAlike_95 : decode mX7_mostAlike.2.1 95 = .ok (.iadd, 1) := by decide +kernel
theorem dX7_mostAlike_96 : decode mX7_mostAlike.2.1 96 = .ok (.istore 5, 2) := by decide +kernel
theorem dX7_mostAlike_98 : decode mX7_mostAlike.2.1 98 = .ok (.iinc 6 1, 3) := by decide +kernel
theorem dX7_mostAlike_101 : decode mX7_mostAlike.2.1 101 = .ok (.goto (-83), 3) := by decide +kernel
theorem dX7_mostAlike_104 : decode mX7_mostAlike.2.1 104 = .ok (.iload_n 3, 1) := by decide +kernel
theorem dX7_mostAlike_105 : decode mX7_mostAlike.2.1 105 = .ok (.iload 5, 2) := by decide +kernel
theorem dX7_mostAlike_107 : decode mX7_mostAlike.2.1 107 = .ok (.invokestatic 66, 3) := by decide +kernel
theorem dX7_mostAlike_110 : decode mX7_mostAlike.2.1 110 = .ok (.istore_n 3, 1) := by decide +kernel
theorem dX7_mostAlike_111 : decode mX7_mostAlike.2.1 111 = .ok (.iinc 4 1, 3) := by decide +kernel
theorem dX7_mostAlike_114 : decode mX7_mostAlike.2.1 114 = .ok (.goto (-109), 3) := by decide +kernel
theorem dX7_mostAlike_117 : decode mX7_mostAlike.2.1 117 = .ok (.iload_n 3, 1) := by decide +kernel
theorem dX7_mostAlike_118 : decode mX7_mostAlike.2.1 118 = .ok (.ireturn, 1) := by decide +kernel
abbrev mX8_init : aM := (yX8_init, cX8_init, 1, none)
theorem dX8_init_0 : decode mX8_init.2.1 0 = .ok (.aload_n 0, 1) := by decide +kernel
theorem dX8_init_1 : decode mX8_init.2.1 1 = .ok (.invokespecial 3, 3) := by decide +kernel
theorem dX8_init_4 : decode mX8_init.2.1 4 = .ok (.aload_n 0, 1) := by decide +kernel
theorem dX8_init_5 : decode mX8_init.2.1 5 = .ok (.iconst 0, 1) := by decide +kernel
theorem dX8_init_6 : decode mX8_init.2.1 6 = .ok (.putfield 9, 3) := by decide +kernel
theorem dX8_init_9 : decode mX8_init.2.1 9 = .ok (.aload_n 0, 1) := by decide +kernel
theorem dX8_init_10 : decode mX8_init.2.1 10 = .ok (.iconst 0, 1) := by decide +kernel
theorem dX8_init_11 : decode mX8_init.2.1 11 = .ok (.putfield 15, 3) := by decide +kernel
theorem dX8_init_14 : decode mX8_init.2.1 14 = .ok (.aload_n 0, 1) := by decide +kernel
theorem dX8_init_15 : decode mX8_init.2.1 15 = .ok (.iconst 0, 1) := by decide +kernel
theorem dX8_init_16 : decode mX8_init.2.1 16 = .ok (.putfield 18, 3) := by decide +kernel
theorem dX8_init_19 : decode mX8_init.2.1 19 = .ok (.aload_n 0, 1) := by decide +kernel
theorem dX8_init_20 : decode mX8_init.2.1 20 = .ok (.iconst 0, 1) := by decide +kernel
theorem dX8_init_21 : decode mX8_init.2.1 21 = .ok (.putfield 21, 3) := by decide +kernel
theorem dX8_init_24 : decode mX8_init.2.1 24 = .ok (.aload_n 0, 1) := by decide +kernel
theorem dX8_init_25 : decode mX8_init.2.1 25 = .ok (.iconst 5, 1) := by decide +kernel
theorem dX8_init_26 : decode mX8_init.2.1 26 = .ok (.newarray .int, 2) := by decide +kernel
theorem dX8_init_28 : decode mX8_init.2.1 28 = .ok (.putfield 24, 3) := by decide +kernel
theorem dX8_init_31 : decode mX8_init.2.1 31 = .ok (.aload_n 0, 1) := by decide +kernel
theorem dX8_init_32 : decode mX8_init.2.1 32 = .ok (.bipush 6, 2) := by decide +kernel
theorem dX8_init_34 : decode mX8_init.2.1 34 = .ok (.newarray .int, 2) := by decide +kernel
theorem dX8_init_36 : decode mX8_init.2.1 36 = .ok (.putfield 28, 3) := by decide +kernel
theorem dX8_init_39 : decode mX8_init.2.1 39 = .ok (.return_, 1) := by decide +kernel
abbrev mX8_begin : aM := (yX8_begin, cX8_begin, 3, none)
theorem dX8_begin_0 : decode mX8_begin.2.1 0 = .ok (.aload_n 0, 1) := by decide +kernel
theorem dX8_begin_1 : decode mX8_begin.2.1 1 = .ok (.iconst 0, 1) := by decide +kernel
theorem dX8_begin_2 : decode mX8_begin.2.1 2 = .ok (.putfield 9, 3) := by decide +kernel
theorem dX8_begin_5 : decode mX8_begin.2.1 5 = .ok (.aload_n 0, 1) := by decide +kernel
theorem dX8_begin_6 : decode mX8_begin.2.1 6 = .ok (.aload_n 1, 1) := by decide +kernel
theorem dX8_begin_7 : decode mX8_begin.2.1 7 = .ok (.getfield 31, 3) := by decide +kernel
theorem dX8_begin_10 : decode mX8_begin.2.1 10 = .ok (.putfield 15, 3) := by decide +kernel
theorem dX8_begin_13 : decode mX8_begin.2.1 13 = .ok (.aload_n 0, 1) := by decide +kernel
theorem dX8_begin_14 : decode mX8_begin.2.1 14 = .ok (.iconst 0, 1) := by decide +kernel
theorem dX8_begin_15 : decode mX8_begin.2.1 15 = .ok (.putfield 18, 3) := by decide +kernel
theorem dX8_begin_18 : decode mX8_begin.2.1 18 = .ok (.aload_n 0, 1) := by decide +kernel
theorem dX8_begin_19 : decode mX8_begin.2.1 19 = .ok (.iconst 0, 1) := by decide +kernel
theorem dX8_begin_20 : decode mX8_begin.2.1 20 = .ok (.putfield 21, 3) := by decide +kernel
theorem dX8_begin_23 : decode mX8_begin.2.1 23 = .ok (.iconst 0, 1) := by decide +kernel
theorem dX8_begin_24 : decode mX8_begin.2.1 24 = .ok (.istore_n 2, 1) := by decide +kernel
theorem dX8_begin_25 : decode mX8_begin.2.1 25 = .ok (.iload_n 2, 1) := by decide +kernel
theorem dX8_begin_26 : decode mX8_begin.2.1 26 = .ok (.iconst 5, 1) := by decide +kernel
theorem dX8_begin_27 : decode mX8_begin.2.1 27 = .ok (.if_icmp .ge 20, 3) := by decide +kernel
theorem dX8_begin_30 : decode mX8_begin.2.1 30 = .ok (.aload_n 0, 1) := by decide +kernel
theorem dX8_begin_31 : decode mX8_begin.2.1 31 = .ok (.getfield 24, 3) := by decide +kernel
theorem dX8_begin_34 : decode mX8_begin.2.1 34 = .ok (.iload_n 2, 1) := by decide +kernel
theorem dX8_begin_35 : decode mX8_begin.2.1 35 = .ok (.aload_n 1, 1) := by decide +kernel
theorem dX8_begin_36 : decode mX8_begin.2.1 36 = .ok (.iload_n 2, 1) := by decide +kernel
theorem dX8_begin_37 : decode mX8_begin.2.1 37 = .ok (.invokevirtual 34, 3) := by decide +kernel
theorem dX8_begin_40 : decode mX8_begin.2.1 40 = .ok (.iastore, 1) := by decide +kernel
theorem dX8_begin_41 : decode mX8_begin.2.1 41 = .ok (.iinc 2 1, 3) := by decide +kernel
theorem dX8_begin_44 : decode mX8_begin.2.1 44 = .ok (.goto (-19), 3) := by decide +kernel
theorem dX8_begin_47 : decode mX8_begin.2.1 47 = .ok (.iconst 0, 1) := by decide +kernel
theorem dX8_begin_48 : decode mX8_begin.2.1 48 = .ok (.istore_n 2, 1) := by decide +kernel
theorem dX8_begin_49 : decode mX8_begin.2.1 49 = .ok (.iload_n 2, 1) := by decide +kernel
theorem dX8_begin_50 : decode mX8_begin.2.1 50 = .ok (.bipush 6, 2) := by decide +kernel
theorem dX8_begin_52 : decode mX8_begin.2.1 52 = .ok (.if_icmp .ge 20, 3) := by decide +kernel
theorem dX8_begin_55 : decode mX8_begin.2.1 55 = .ok (.aload_n 0, 1) := by decide +kernel
theorem dX8_begin_56 : decode mX8_begin.2.1 56 = .ok (.getfield 28, 3) := by decide +kernel
theorem dX8_begin_59 : decode mX8_begin.2.1 59 = .ok (.iload_n 2, 1) := by decide +kernel
theorem dX8_begin_60 : decode mX8_begin.2.1 60 = .ok (.aload_n 1, 1) := by decide +kernel
theorem dX8_begin_61 : decode mX8_begin.2.1 61 = .ok (.iload_n 2, 1) := by decide +kernel
theorem dX8_begin_62 : decode mX8_begin.2.1 62 = .ok (.invokevirtual 38, 3) := by decide +kernel
theorem dX8_begin_65 : decode mX8_begin.2.1 65 = .ok (.iastore, 1) := by decide +kernel
theorem dX8_begin_66 : decode mX8_begin.2.1 66 = .ok (.iinc 2 1, 3) := by decide +kernel
theorem dX8_begin_69 : decode mX8_begin.2.1 69 = .ok (.goto (-20), 3) := by decide +kernel
theorem dX8_begin_72 : decode mX8_begin.2.1 72 = .ok (.return_, 1) := by decide +kernel
abbrev mX8_take : aM := (yX8_take, cX8_take, 2, none)
theorem dX8_take_0 : decode mX8_take.2.1 0 = .ok (.aload_n 0, 1) := by decide +kernel
theorem dX8_take_1 : decode mX8_take.2.1 1 = .ok (.aload_n 1, 1) := by decide +kernel
theorem dX8_take_2 : decode mX8_take.2.1 2 = .ok (.getfield 9, 3) := by decide +kernel
theorem dX8_take_5 : decode mX8_take.2.1 5 = .ok (.putfield 9, 3) := by decide +kernel
theorem dX8_take_8 : decode mX8_take.2.1 8 = .ok (.aload_n 0, 1) := by decide +kernel
theorem dX8_take_9 : decode mX8_take.2.1 9 = .ok (.aload_n 1, 1) := by decide +kernel
theorem dX8_take_10 : decode mX8_take.2.1 10 = .ok (.getfield 15, 3) := by decide +kernel
theorem dX8_take_13 : decode mX8_take.2.1 13 = .ok (.putfield 15, 3) := by decide +kernel
theorem dX8_take_16 : decode mX8_take.2.1 16 = .ok (.aload_n 0, 1) := by decide +kernel
theorem dX8_take_17 : decode mX8_take.2.1 17 = .ok (.aload_n 1, 1) := by decide +kernel
theorem dX8_take_18 : decode mX8_take.2.1 18 = .ok (.getfield 18, 3) := by decide +kernel
theorem dX8_take_21 : decode mX8_take.2.1 21 = .ok (.putfield 18, 3) := by decide +kernel
theorem dX8_take_24 : decode mX8_take.2.1 24 = .ok (.aload_n 0, 1) := by decide +kernel
theorem dX8_take_25 : decode mX8_take.2.1 25 = .ok (.aload_n 1, 1) := by decide +kernel
theorem dX8_take_26 : decode mX8_take.2.1 26 = .ok (.getfield 21, 3) := by decide +kernel
theorem dX8_take_29 : decode mX8_take.2.1 29 = .ok (.putfield 21, 3) := by decide +kernel
theorem dX8_take_32 : decode mX8_take.2.1 32 = .ok (.aload_n 1, 1) := by decide +kernel
theorem dX8_take_33 : decode mX8_take.2.1 33 = .ok (.getfield 24, 3) := by decide +kernel
theorem dX8_take_36 : decode mX8_take.2.1 36 = .ok (.iconst 0, 1) := by decide +kernel
theorem dX8_take_37 : decode mX8_take.2.1 37 = .ok (.aload_n 0, 1) := by decide +kernel
theorem dX8_take_38 : decode mX8_take.2.1 38 = .ok (.getfield 24, 3) := by decide +kernel
theorem dX8_take_41 : decode mX8_take.2.1 41 = .ok (.iconst 0, 1) := by decide +kernel
theorem dX8_take_42 : decode mX8_take.2.1 42 = .ok (.iconst 5, 1) := by decide +kernel
theorem dX8_take_43 : decode mX8_take.2.1 43 = .ok (.invokestatic 41, 3) := by decide +kernel
theorem dX8_take_46 : decode mX8_take.2.1 46 = .ok (.aload_n 1, 1) := by decide +kernel
theorem dX8_take_47 : decode mX8_take.2.1 47 = .ok (.getfield 28, 3) := by decide +kernel
theorem dX8_take_50 : decode mX8_take.2.1 50 = .ok (.iconst 0, 1) := by decide +kernel
theorem dX8_take_51 : decode mX8_take.2.1 51 = .ok (.aload_n 0, 1) := by decide +kernel
theorem dX8_take_52 : decode mX8_take.2.1 52 = .ok (.getfield 28, 3) := by decide +kernel
theorem dX8_take_55 : decode mX8_take.2.1 55 = .ok (.iconst 0, 1) := by decide +kernel
theorem dX8_take_56 : decode mX8_take.2.1 56 = .ok (.bipush 6, 2) := by decide +kernel
theorem dX8_take_58 : decode mX8_take.2.1 58 = .ok (.invokestatic 41, 3) := by decide +kernel
theorem dX8_take_61 : decode mX8_take.2.1 61 = .ok (.return_, 1) := by decide +kernel
abbrev mX8_stainsLeft : aM := (yX8_stainsLeft, cX8_stainsLeft, 3, (some .int))
theorem dX8_stainsLeft_0 : decode mX8_stainsLeft.2.1 0 = .ok (.iconst 0, 1) := by decide +kernel
theorem dX8_stainsLeft_1 : decode mX8_stainsLeft.2.1 1 = .ok (.istore_n 1, 1) := by decide +kernel
theorem dX8_stainsLeft_2 : decode mX8_stainsLeft.2.1 2 = .ok (.iconst 0, 1) := by decide +kernel
theorem dX8_stainsLeft_3 : decode mX8_stainsLeft.2.1 3 = .ok (.istore_n 2, 1) := by decide +kernel
theorem dX8_stainsLeft_4 : decode mX8_stainsLeft.2.1 4 = .ok (.iload_n 2, 1) := by decide +kernel
theorem dX8_stainsLeft_5 : decode mX8_stainsLeft.2.1 5 = .ok (.bipush 6, 2) := by decide +kernel
theorem dX8_stainsLeft_7 : decode mX8_stainsLeft.2.1 7 = .ok (.if_icmp .ge 26, 3) := by decide +kernel
theorem dX8_stainsLeft_10 : decode mX8_stainsLeft.2.1 10 = .ok (.iload_n 1, 1) := by decide +kernel
theorem dX8_stainsLeft_11 : decode mX8_stainsLeft.2.1 11 = .ok (.aload_n 0, 1) := by decide +kernel
theorem dX8_stainsLeft_12 : decode mX8_stainsLeft.2.1 12 = .ok (.getfield 28, 3) := by decide +kernel
theorem dX8_stainsLeft_15 : decode mX8_stainsLeft.2.1 15 = .ok (.iload_n 2, 1) := by decide +kernel
theorem dX8_stainsLeft_16 : decode mX8_stainsLeft.2.1 16 = .ok (.iaload, 1) := by decide +kernel
theorem dX8_stainsLeft_17 : decode mX8_stainsLeft.2.1 17 = .ok (.ifCond .le 7, 3) := by decide +kernel
theorem dX8_stainsLeft_20 : decode mX8_stainsLeft.2.1 20 = .ok (.iconst 1, 1) := by decide +kernel
theorem dX8_stainsLeft_21 : decode mX8_stainsLeft.2.1 21 = .ok (.goto 4, 3) := by decide +kernel
theorem dX8_stainsLeft_24 : decode mX8_stainsLeft.2.1 24 = .ok (.iconst 0, 1) := by decide +kernel
theorem dX8_stainsLeft_25 : decode mX8_stainsLeft.2.1 25 = .ok (.iadd, 1) := by decide +kernel
theorem dX8_stainsLeft_26 : decode mX8_stainsLeft.2.1 26 = .ok (.istore_n 1, 1) := by decide +kernel
theorem dX8_stainsLeft_27 : decode mX8_stainsLeft.2.1 27 = .ok (.iinc 2 1, 3) := by decide +kernel
theorem dX8_stainsLeft_30 : decode mX8_stainsLeft.2.1 30 = .ok (.goto (-26), 3) := by decide +kernel
theorem dX8_stainsLeft_33 : decode mX8_stainsLeft.2.1 33 = .ok (.iload_n 1, 1) := by decide +kernel
theorem dX8_stainsLeft_34 : decode mX8_stainsLeft.2.1 34 = .ok (.ireturn, 1) := by decide +kernel
abbrev mJ6_bitCount_0f7a4 : aM := (yJ6_bitCount_0f7a4, cJ6_bitCount_0f7a4, 1, (some .int))
theorem dJ6_bitCount_0f7a4_0 : decode mJ6_bitCount_0f7a4.2.1 0 = .ok (.iload_n 0, 1) := by decide +kernel
theorem dJ6_bitCount_0f7a4_1 : decode mJ6_bitCount_0f7a4.2.1 1 = .ok (.iload_n 0, 1) := by decide +kernel
theorem dJ6_bitCount_0f7a4_2 : decode mJ6_bitCount_0f7a4.2.1 2 = .ok (.iconst 1, 1) := by decide +kernel
theorem dJ6_bitCount_0f7a4_3 : decode mJ6_bitCount_0f7a4.2.1 3 = .ok (.iushr, 1) := by decide +kernel
theorem dJ6_bitCount_0f7a4_4 : decode mJ6_bitCount_0f7a4.2.1 4 = .ok (.ldc_w 265, 3) := by decide +kernel
theorem dJ6_bitCount_0f7a4_7 : decode mJ6_bitCount_0f7a4.2.1 7 = .ok (.iand, 1) := by decide +kernel
theorem dJ6_bitCount_0f7a4_8 : decode mJ6_bitCount_0f7a4.2.1 8 = .ok (.isub, 1) := by decide +kernel
theorem dJ6_bitCount_0f7a4_9 : decode mJ6_bitCount_0f7a4.2.1 9 = .ok (.istore_n 0, 1) := by decide +kernel
theorem dJ6_bitCount_0f7a4_10 : decode mJ6_bitCount_0f7a4.2.1 10 = .ok (.iload_n 0, 1) := by decide +kernel
theorem dJ6_bitCount_0f7a4_11 : decode mJ6_bitCount_0f7a4.2.1 11 = .ok (.ldc_w 266, 3) := by decide +kernel
theorem dJ6_bitCount_0f7a4_14 : decode mJ6_bitCount_0f7a4.2.1 14 = .ok (.iand, 1) := by decide +kernel
theorem dJ6_bitCount_0f7a4_15 : decode mJ6_bitCount_0f7a4.2.1 15 = .ok (.iload_n 0, 1) := by decide +kernel
theorem dJ6_bitCount_0f7a4_16 : decode mJ6_bitCount_0f7a4.2.1 16 = .ok (.iconst 2, 1) := by decide +kernel
theorem dJ6_bitCount_0f7a4_17 : decode mJ6_bitCount_0f7a4.2.1 17 = .ok (.iushr, 1) := by decide +kernel
theorem dJ6_bitCount_0f7a4_18 : decode mJ6_bitCount_0f7a4.2.1 18 = .ok (.ldc_w 266, 3) := by decide +kernel
theorem dJ6_bitCount_0f7a4_21 : decode mJ6_bitCount_0f7a4.2.1 21 = .ok (.iand, 1) := by decide +kernel
theorem dJ6_bitCount_0f7a4_22 : decode mJ6_bitCount_0f7a4.2.1 22 = .ok (.iadd, 1) := by decide +kernel
theorem dJ6_bitCount_0f7a4_23 : decode mJ6_bitCount_0f7a4.2.1 23 = .ok (.istore_n 0, 1) := by decide +kernel
theorem dJ6_bitCount_0f7a4_24 : decode mJ6_bitCount_0f7a4.2.1 24 = .ok (.iload_n 0, 1) := by decide +kernel
theorem dJ6_bitCount_0f7a4_25 : decode mJ6_bitCount_0f7a4.2.1 25 = .ok (.iload_n 0, 1) := by decide +kernel
theorem dJ6_bitCount_0f7a4_26 : decode mJ6_bitCount_0f7a4.2.1 26 = .ok (.iconst 4, 1) := by decide +kernel
theorem dJ6_bitCount_0f7a4_27 : decode mJ6_bitCount_0f7a4.2.1 27 = .ok (.iushr, 1) := by decide +kernel
theorem dJ6_bitCount_0f7a4_28 : decode mJ6_bitCount_0f7a4.2.1 28 = .ok (.iadd, 1) := by decide +kernel
theorem dJ6_bitCount_0f7a4_29 : decode mJ6_bitCount_0f7a4.2.1 29 = .ok (.ldc_w 267, 3) := by decide +kernel
theorem dJ6_bitCount_0f7a4_32 : decode mJ6_bitCount_0f7a4.2.1 32 = .ok (.iand, 1) := by decide +kernel
theorem dJ6_bitCount_0f7a4_33 : decode mJ6_bitCount_0f7a4.2.1 33 = .ok (.istore_n 0, 1) := by decide +kernel
theorem dJ6_bitCount_0f7a4_34 : decode mJ6_bitCount_0f7a4.2.1 34 = .ok (.iload_n 0, 1) := by decide +kernel
theorem dJ6_bitCount_0f7a4_35 : decode mJ6_bitCount_0f7a4.2.1 35 = .ok (.iload_n 0, 1) := by decide +kernel
theorem dJ6_bitCount_0f7a4_36 : decode mJ6_bitCount_0f7a4.2.1 36 = .ok (.bipush 8, 2) := by decide +kernel
theorem dJ6_bitCount_0f7a4_38 : decode mJ6_bitCount_0f7a4.2.1 38 = .ok (.iushr, 1) := by decide +kernel
theorem dJ6_bitCount_0f7a4_39 : decode mJ6_bitCount_0f7a4.2.1 39 = .ok (.iadd, 1) := by decide +kernel
theorem dJ6_bitCount_0f7a4_40 : decode mJ6_bitCount_0f7a4.2.1 40 = .ok (.istore_n 0, 1) := by decide +kernel
theorem dJ6_bitCount_0f7a4_41 : decode mJ6_bitCount_0f7a4.2.1 41 = .ok (.iload_n 0, 1) := by decide +kernel
theorem dJ6_bitCount_0f7a4_42 : decode mJ6_bitCount_0f7a4.2.1 42 = .ok (.iload_n 0, 1) := by decide +kernel
theorem dJ6_bitCount_0f7a4_43 : decode mJ6_bitCount_0f7a4.2.1 43 = .ok (.bipush 16, 2) := by decide +kernel
theorem dJ6_bitCount_0f7a4_45 : decode mJ6_bitCount_0f7a4.2.1 45 = .ok (.iushr, 1) := by decide +kernel
theorem dJ6_bitCount_0f7a4_46 : decode mJ6_bitCount_0f7a4.2.1 46 = .ok (.iadd, 1) := by decide +kernel
theorem dJ6_bitCount_0f7a4_47 : decode mJ6_bitCount_0f7a4.2.1 47 = .ok (.istore_n 0, 1) := by decide +kernel
theorem dJ6_bitCount_0f7a4_48 : decode mJ6_bitCount_0f7a4.2.1 48 = .ok (.iload_n 0, 1) := by decide +kernel
theorem dJ6_bitCount_0f7a4_49 : decode mJ6_bitCount_0f7a4.2.1 49 = .ok (.bipush 63, 2) := by decide +kernel
theorem dJ6_bitCount_0f7a4_51 : decode mJ6_bitCount_0f7a4.2.1 51 = .ok (.iand, 1) := by decide +kernel
theorem dJ6_bitCount_0f7a4_52 : decode mJ6_bitCount_0f7a4.2.1 52 = .ok (.ireturn, 1) := by decide +kernel
abbrev mJ9_floorDiv_f86c9 : aM := (yJ9_floorDiv_f86c9, cJ9_floorDiv_f86c9, 6, (some .long))
theorem dJ9_floorDiv_f86c9_0 : decode mJ9_floorDiv_f86c9.2.1 0 = .ok (.lload_n 0, 1) := by decide +kernel
theorem dJ9_floorDiv_f86c9_1 : decode mJ9_floorDiv_f86c9.2.1 1 = .ok (.lload_n 2, 1) := by decide +kernel
theorem dJ9_floorDiv_f86c9_2 : decode mJ9_floorDiv_f86c9.2.1 2 = .ok (.ldiv, 1) := by decide +kernel
theorem dJ9_floorDiv_f86c9_3 : decode mJ9_floorDiv_f86c9.2.1 3 = .ok (.lstore 4, 2) := by decide +kernel
theorem dJ9_floorDiv_f86c9_5 : decode mJ9_floorDiv_f86c9.2.1 5 = .ok (.lload_n 0, 1) := by decide +kernel
theorem dJ9_floorDiv_f86c9_6 : decode mJ9_floorDiv_f86c9.2.1 6 = .ok (.lload_n 2, 1) := by decide +kernel
theorem dJ9_floorDiv_f86c9_7 : decode mJ9_floorDiv_f86c9.2.1 7 = .ok (.lxor, 1) := by decide +kernel
theorem dJ9_floorDiv_f86c9_8 : decode mJ9_floorDiv_f86c9.2.1 8 = .ok (.lconst 0, 1) := by decide +kernel
theorem dJ9_floorDiv_f86c9_9 : decode mJ9_floorDiv_f86c9.2.1 9 = .ok (.lcmp, 1) := by decide +kernel
theorem dJ9_floorDiv_f86c9_10 : decode mJ9_floorDiv_f86c9.2.1 10 = .ok (.ifCond .ge 17, 3) := by decide +kernel
theorem dJ9_floorDiv_f86c9_13 : decode mJ9_floorDiv_f86c9.2.1 13 = .ok (.lload 4, 2) := by decide +kernel
theorem dJ9_floorDiv_f86c9_15 : decode mJ9_floorDiv_f86c9.2.1 15 = .ok (.lload_n 2, 1) := by decide +kernel
theorem dJ9_floorDiv_f86c9_16 : decode mJ9_floorDiv_f86c9.2.1 16 = .ok (.lmul, 1) := by decide +kernel
theorem dJ9_floorDiv_f86c9_17 : decode mJ9_floorDiv_f86c9.2.1 17 = .ok (.lload_n 0, 1) := by decide +kernel
theorem dJ9_floorDiv_f86c9_18 : decode mJ9_floorDiv_f86c9.2.1 18 = .ok (.lcmp, 1) := by decide +kernel
theorem dJ9_floorDiv_f86c9_19 : decode mJ9_floorDiv_f86c9.2.1 19 = .ok (.ifCond .eq 8, 3) := by decide +kernel
theorem dJ9_floorDiv_f86c9_22 : decode mJ9_floorDiv_f86c9.2.1 22 = .ok (.lload 4, 2) := by decide +kernel
theorem dJ9_floorDiv_f86c9_24 : decode mJ9_floorDiv_f86c9.2.1 24 = .ok (.lconst 1, 1) := by decide +kernel
theorem dJ9_floorDiv_f86c9_25 : decode mJ9_floorDiv_f86c9.2.1 25 = .ok (.lsub, 1) := by decide +kernel
theorem dJ9_floorDiv_f86c9_26 : decode mJ9_floorDiv_f86c9.2.1 26 = .ok (.lreturn, 1) := by decide +kernel
theorem dJ9_floorDiv_f86c9_27 : decode mJ9_floorDiv_f86c9.2.1 27 = .ok (.lload 4, 2) := by decide +kernel
theorem dJ9_floorDiv_f86c9_29 : decode mJ9_floorDiv_f86c9.2.1 29 = .ok (.lreturn, 1) := by decide +kernel
abbrev mJ9_floorMod_f86c9 : aM := (yJ9_floorMod_f86c9, cJ9_floorMod_f86c9, 6, (some .long))
theorem dJ9_floorMod_f86c9_0 : decode mJ9_floorMod_f86c9.2.1 0 = .ok (.lload_n 0, 1) := by decide +kernel
theorem dJ9_floorMod_f86c9_1 : decode mJ9_floorMod_f86c9.2.1 1 = .ok (.lload_n 2, 1) := by decide +kernel
theorem dJ9_floorMod_f86c9_2 : decode mJ9_floorMod_f86c9.2.1 2 = .ok (.lrem, 1) := by decide +kernel
theorem dJ9_floorMod_f86c9_3 : decode mJ9_floorMod_f86c9.2.1 3 = .ok (.lstore 4, 2) := by decide +kernel
theorem dJ9_floorMod_f86c9_5 : decode mJ9_floorMod_f86c9.2.1 5 = .ok (.lload_n 0, 1) := by decide +kernel
theorem dJ9_floorMod_f86c9_6 : decode mJ9_floorMod_f86c9.2.1 6 = .ok (.lload_n 2, 1) := by decide +kernel
theorem dJ9_floorMod_f86c9_7 : decode mJ9_floorMod_f86c9.2.1 7 = .ok (.lxor, 1) := by decide +kernel
theorem dJ9_floorMod_f86c9_8 : decode mJ9_floorMod_f86c9.2.1 8 = .ok (.lconst 0, 1) := by decide +kernel
theorem dJ9_floorMod_f86c9_9 : decode mJ9_floorMod_f86c9.2.1 9 = .ok (.lcmp, 1) := by decide +kernel
theorem dJ9_floorMod_f86c9_10 : decode mJ9_floorMod_f86c9.2.1 10 = .ok (.ifCond .ge 15, 3) := by decide +kernel
theorem dJ9_floorMod_f86c9_13 : decode mJ9_floorMod_f86c9.2.1 13 = .ok (.lload 4, 2) := by decide +kernel
theorem dJ9_floorMod_f86c9_15 : decode mJ9_floorMod_f86c9.2.1 15 = .ok (.lconst 0, 1) := by decide +kernel
theorem dJ9_floorMod_f86c9_16 : decode mJ9_floorMod_f86c9.2.1 16 = .ok (.lcmp, 1) := by decide +kernel
theorem dJ9_floorMod_f86c9_17 : decode mJ9_floorMod_f86c9.2.1 17 = .ok (.ifCond .eq 8, 3) := by decide +kernel
theorem dJ9_floorMod_f86c9_20 : decode mJ9_floorMod_f86c9.2.1 20 = .ok (.lload 4, 2) := by decide +kernel
theorem dJ9_floorMod_f86c9_22 : decode mJ9_floorMod_f86c9.2.1 22 = .ok (.lload_n 2, 1) := by decide +kernel
theorem dJ9_floorMod_f86c9_23 : decode mJ9_floorMod_f86c9.2.1 23 = .ok (.ladd, 1) := by decide +kernel
theorem dJ9_floorMod_f86c9_24 : decode mJ9_floorMod_f86c9.2.1 24 = .ok (.lreturn, 1) := by decide +kernel
theorem dJ9_floorMod_f86c9_25 : decode mJ9_floorMod_f86c9.2.1 25 = .ok (.lload 4, 2) := by decide +kernel
theorem dJ9_floorMod_f86c9_27 : decode mJ9_floorMod_f86c9.2.1 27 = .ok (.lreturn, 1) := by decide +kernel
abbrev mJ9_max_7cf53 : aM := (yJ9_max_7cf53, cJ9_max_7cf53, 2, (some .int))
theorem dJ9_max_7cf53_0 : decode mJ9_max_7cf53.2.1 0 = .ok (.iload_n 0, 1) := by decide +kernel
theorem dJ9_max_7cf53_1 : decode mJ9_max_7cf53.2.1 1 = .ok (.iload_n 1, 1) := by decide +kernel
theorem dJ9_max_7cf53_2 : decode mJ9_max_7cf53.2.1 2 = .ok (.if_icmp .lt 7, 3) := by decide +kernel
theorem dJ9_max_7cf53_5 : decode mJ9_max_7cf53.2.1 5 = .ok (.iload_n 0, 1) := by decide +kernel
theorem dJ9_max_7cf53_6 : decode mJ9_max_7cf53.2.1 6 = .ok (.goto 4, 3) := by decide +kernel
theorem dJ9_max_7cf53_9 : decode mJ9_max_7cf53.2.1 9 = .ok (.iload_n 1, 1) := by decide +kernel
theorem dJ9_max_7cf53_10 : decode mJ9_max_7cf53.2.1 10 = .ok (.ireturn, 1) := by decide +kernel
abbrev mJ9_min_7cf53 : aM := (yJ9_min_7cf53, cJ9_min_7cf53, 2, (some .int))
theorem dJ9_min_7cf53_0 : decode mJ9_min_7cf53.2.1 0 = .ok (.iload_n 0, 1) := by decide +kernel
theorem dJ9_min_7cf53_1 : decode mJ9_min_7cf53.2.1 1 = .ok (.iload_n 1, 1) := by decide +kernel
theorem dJ9_min_7cf53_2 : decode mJ9_min_7cf53.2.1 2 = .ok (.if_icmp .gt 7, 3) := by decide +kernel
theorem dJ9_min_7cf53_5 : decode mJ9_min_7cf53.2.1 5 = .ok (.iload_n 0, 1) := by decide +kernel
theorem dJ9_min_7cf53_6 : decode mJ9_min_7cf53.2.1 6 = .ok (.goto 4, 3) := by decide +kernel
theorem dJ9_min_7cf53_9 : decode mJ9_min_7cf53.2.1 9 = .ok (.iload_n 1, 1) := by decide +kernel
theorem dJ9_min_7cf53_10 : decode mJ9_min_7cf53.2.1 10 = .ok (.ireturn, 1) := by decide +kernel
