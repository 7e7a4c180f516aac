abbrev mX9_init : aM := (yX9_init, cX9_init, 1, none)
theorem dX9_init_0 : decode mX9_init.2.1 0 = .ok (.aload_n 0, 1) := by decide +kernel
theorem dX9_init_1 : decode mX9_init.2.1 1 = .ok (.invokespecial 1, 3) := by decide +kernel
theorem dX9_init_4 : decode mX9_init.2.1 4 = .ok (.aload_n 0, 1) := by decide +kernel
theorem dX9_init_5 : decode mX9_init.2.1 5 = .ok (.sipush 1600, 3) := by decide +kernel
theorem dX9_init_8 : decode mX9_init.2.1 8 = .ok (.newarray .byte, 2) := by decide +kernel
theorem dX9_init_10 : decode mX9_init.2.1 10 = .ok (.putfield 9, 3) := by decide +kernel
theorem dX9_init_13 : decode mX9_init.2.1 13 = .ok (.aload_n 0, 1) := by decide +kernel
theorem dX9_init_14 : decode mX9_init.2.1 14 = .ok (.iconst 0, 1) := by decide +kernel
theorem dX9_init_15 : decode mX9_init.2.1 15 = .ok (.putfield 13, 3) := by decide +kernel
theorem dX9_init_18 : decode mX9_init.2.1 18 = .ok (.aload_n 0, 1) := by decide +kernel
theorem dX9_init_19 : decode mX9_init.2.1 19 = .ok (.new 17, 3) := by decide +kernel
theorem dX9_init_22 : decode mX9_init.2.1 22 = .ok (.dup, 1) := by decide +kernel
theorem dX9_init_23 : decode mX9_init.2.1 23 = .ok (.iconst 0, 1) := by decide +kernel
theorem dX9_init_24 : decode mX9_init.2.1 24 = .ok (.invokespecial 19, 3) := by decide +kernel
theorem dX9_init_27 : decode mX9_init.2.1 27 = .ok (.putfield 22, 3) := by decide +kernel
theorem dX9_init_30 : decode mX9_init.2.1 30 = .ok (.aload_n 0, 1) := by decide +kernel
theorem dX9_init_31 : decode mX9_init.2.1 31 = .ok (.iconst 0, 1) := by decide +kernel
theorem dX9_init_32 : decode mX9_init.2.1 32 = .ok (.putfield 26, 3) := by decide +kernel
theorem dX9_init_35 : decode mX9_init.2.1 35 = .ok (.aload_n 0, 1) := by decide +kernel
theorem dX9_init_36 : decode mX9_init.2.1 36 = .ok (.iconst (-1), 1) := by decide +kernel
theorem dX9_init_37 : decode mX9_init.2.1 37 = .ok (.putfield 29, 3) := by decide +kernel
theorem dX9_init_40 : decode mX9_init.2.1 40 = .ok (.aload_n 0, 1) := by decide +kernel
theorem dX9_init_41 : decode mX9_init.2.1 41 = .ok (.new 32, 3) := by decide +kernel
theorem dX9_init_44 : decode mX9_init.2.1 44 = .ok (.dup, 1) := by decide +kernel
theorem dX9_init_45 : decode mX9_init.2.1 45 = .ok (.invokespecial 34, 3) := by decide +kernel
theorem dX9_init_48 : decode mX9_init.2.1 48 = .ok (.putfield 35, 3) := by decide +kernel
theorem dX9_init_51 : decode mX9_init.2.1 51 = .ok (.aload_n 0, 1) := by decide +kernel
theorem dX9_init_52 : decode mX9_init.2.1 52 = .ok (.new 32, 3) := by decide +kernel
theorem dX9_init_55 : decode mX9_init.2.1 55 = .ok (.dup, 1) := by decide +kernel
theorem dX9_init_56 : decode mX9_init.2.1 56 = .ok (.invokespecial 34, 3) := by decide +kernel
theorem dX9_init_59 : decode mX9_init.2.1 59 = .ok (.putfield 39, 3) := by decide +kernel
theorem dX9_init_62 : decode mX9_init.2.1 62 = .ok (.aload_n 0, 1) := by decide +kernel
theorem dX9_init_63 : decode mX9_init.2.1 63 = .ok (.new 42, 3) := by decide +kernel
theorem dX9_init_66 : decode mX9_init.2.1 66 = .ok (.dup, 1) := by decide +kernel
theorem dX9_init_67 : decode mX9_init.2.1 67 = .ok (.aload_n 0, 1) := by decide +kernel
theorem dX9_init_68 : decode mX9_init.2.1 68 = .ok (.getfield 22, 3) := by decide +kernel
theorem dX9_init_71 : decode mX9_init.2.1 71 = .ok (.invokespecial 44, 3) := by decide +kernel
theorem dX9_init_74 : decode mX9_init.2.1 74 = .ok (.putfield 47, 3) := by decide +kernel
theorem dX9_init_77 : decode mX9_init.2.1 77 = .ok (.aload_n 0, 1) := by decide +kernel
theorem dX9_init_78 : decode mX9_init.2.1 78 = .ok (.new 51, 3) := by decide +kernel
theorem dX9_init_81 : decode mX9_init.2.1 81 = .ok (.dup, 1) := by decide +kernel
theorem dX9_init_82 : decode mX9_init.2.1 82 = .ok (.invokespecial 53, 3) := by decide +kernel
theorem dX9_init_85 : decode mX9_init.2.1 85 = .ok (.putfield 54, 3) := by decide +kernel
theorem dX9_init_88 : decode mX9_init.2.1 88 = .ok (.aload_n 0, 1) := by decide +kernel
theorem dX9_init_89 : decode mX9_init.2.1 89 = .ok (.new 58, 3) := by decide +kernel
theorem dX9_init_92 : decode mX9_init.2.1 92 = .ok (.dup, 1) := by decide +kernel
theorem dX9_init_93 : decode mX9_init.2.1 93 = .ok (.invokespecial 60, 3) := by decide +kernel
theorem dX9_init_96 : decode mX9_init.2.1 96 = .ok (.putfield 61, 3) := by decide +kernel
theorem dX9_init_99 : decode mX9_init.2.1 99 = .ok (.aload_n 0, 1) := by decide +kernel
theorem dX9_init_100 : decode mX9_init.2.1 100 = .ok (.new 65, 3) := by decide +kernel
theorem dX9_init_103 : decode mX9_init.2.1 103 = .ok (.dup, 1) := by decide +kernel
theorem dX9_init_104 : decode mX9_init.2.1 104 = .ok (.aload_n 0, 1) := by decide +kernel
theorem dX9_init_105 : decode mX9_init.2.1 105 = .ok (.getfield 47, 3) := by decide +kernel
theorem dX9_init_108 : decode mX9_init.2.1 108 = .ok (.aload_n 0, 1) := by decide +kernel
theorem dX9_init_109 : decode mX9_init.2.1 109 = .ok (.getfield 35, 3) := by decide +kernel
theorem dX9_init_112 : decode mX9_init.2.1 112 = .ok (.invokespecial 67, 3) := by decide +kernel
theorem dX9_init_115 : decode mX9_init.2.1 115 = .ok (.putfield 70, 3) := by decide +kernel
theorem dX9_init_118 : decode mX9_init.2.1 118 = .ok (.aload_n 0, 1) := by decide +kernel
theorem dX9_init_119 : decode mX9_init.2.1 119 = .ok (.new 74, 3) := by decide +kernel
theorem dX9_init_122 : decode mX9_init.2.1 122 = .ok (.dup, 1) := by decide +kernel
theorem dX9_init_123 : decode mX9_init.2.1 123 = .ok (.aload_n 0, 1) := by decide +kernel
theorem dX9_init_124 : decode mX9_init.2.1 124 = .ok (.getfield 47, 3) := by decide +kernel
theorem dX9_init_127 : decode mX9_init.2.1 127 = .ok (.aload_n 0, 1) := by decide +kernel
theorem dX9_init_128 : decode mX9_init.2.1 128 = .ok (.getfield 35, 3) := by decide +kernel
theorem dX9_init_131 : decode mX9_init.2.1 131 = .ok (.invokespecial 76, 3) := by decide +kernel
theorem dX9_init_134 : decode mX9_init.2.1 134 = .ok (.putfield 77, 3) := by decide +kernel
theorem dX9_init_137 : decode mX9_init.2.1 137 = .ok (.aload_n 0, 1) := by decide +kernel
theorem dX9_init_138 : decode mX9_init.2.1 138 = .ok (.new 81, 3) := by decide +kernel
theorem dX9_init_141 : decode mX9_init.2.1 141 = .ok (.dup, 1) := by decide +kernel
theorem dX9_init_142 : decode mX9_init.2.1 142 = .ok (.aload_n 0, 1) := by decide +kernel
theorem dX9_init_143 : decode mX9_init.2.1 143 = .ok (.getfield 47, 3) := by decide +kernel
theorem dX9_init_146 : decode mX9_init.2.1 146 = .ok (.aload_n 0, 1) := by decide +kernel
theorem dX9_init_147 : decode mX9_init.2.1 147 = .ok (.getfield 35, 3) := by decide +kernel
theorem dX9_init_150 : decode mX9_init.2.1 150 = .ok (.invokespecial 83, 3) := by decide +kernel
theorem dX9_init_153 : decode mX9_init.2.1 153 = .ok (.putfield 84, 3) := by decide +kernel
theorem dX9_init_156 : decode mX9_init.2.1 156 = .ok (.aload_n 0, 1) := by decide +kernel
theorem dX9_init_157 : decode mX9_init.2.1 157 = .ok (.lconst 1, 1) := by decide +kernel
theorem dX9_init_158 : decode mX9_init.2.1 158 = .ok (.putfield 88, 3) := by decide +kernel
theorem dX9_init_161 : decode mX9_init.2.1 161 = .ok (.aload_n 0, 1) := by decide +kernel
theorem dX9_init_162 : decode mX9_init.2.1 162 = .ok (.bipush 21, 2) := by decide +kernel
theorem dX9_init_164 : decode mX9_init.2.1 164 = .ok (.newarray .int, 2) := by decide +kernel
theorem dX9_init_166 : decode mX9_init.2.1 166 = .ok (.putfield 92, 3) := by decide +kernel
theorem dX9_init_169 : decode mX9_init.2.1 169 = .ok (.aload_n 0, 1) := by decide +kernel
theorem dX9_init_170 : decode mX9_init.2.1 170 = .ok (.iconst 0, 1) := by decide +kernel
theorem dX9_init_171 : decode mX9_init.2.1 171 = .ok (.putfield 96, 3) := by decide +kernel
theorem dX9_init_174 : decode mX9_init.2.1 174 = .ok (.aload_n 0, 1) := by decide +kernel
theorem dX9_init_175 : decode mX9_init.2.1 175 = .ok (.bipush 6, 2) := by decide +kernel
theorem dX9_init_177 : decode mX9_init.2.1 177 = .ok (.newarray .int, 2) := by decide +kernel
theorem dX9_init_179 : decode mX9_init.2.1 179 = .ok (.putfield 99, 3) := by decide +kernel
theorem dX9_init_182 : decode mX9_init.2.1 182 = .ok (.return_, 1) := by decide +kernel
abbrev mX9_feed : aM := (yX9_feed, cX9_feed, 6, (some .int))
theorem dX9_feed_0 : decode mX9_feed.2.1 0 = .ok (.aload_n 0, 1) := by decide +kernel
theorem dX9_feed_1 : decode mX9_feed.2.1 1 = .ok (.getfield 13, 3) := by decide +kernel
theorem dX9_feed_4 : decode mX9_feed.2.1 4 = .ok (.sipush 1580, 3) := by decide +kernel
theorem dX9_feed_7 : decode mX9_feed.2.1 7 = .ok (.if_icmp .le 9, 3) := by decide +kernel
theorem dX9_feed_10 : decode mX9_feed.2.1 10 = .ok (.aload_n 0, 1) := by decide +kernel
theorem dX9_feed_11 : decode mX9_feed.2.1 11 = .ok (.iconst 0, 1) := by decide +kernel
theorem dX9_feed_12 : decode mX9_feed.2.1 12 = .ok (.invokevirtual 102, 3) := by decide +kernel
theorem dX9_feed_15 : decode mX9_feed.2.1 15 = .ok (.ireturn, 1) := by decide +kernel
theorem dX9_feed_16 : decode mX9_feed.2.1 16 = .ok (.aload_n 0, 1) := by decide +kernel
theorem dX9_feed_17 : decode mX9_feed.2.1 17 = .ok (.iload_n 1, 1) := by decide +kernel
theorem dX9_feed_18 : decode mX9_feed.2.1 18 = .ok (.invokevirtual 106, 3) := by decide +kernel
theorem dX9_feed_21 : decode mX9_feed.2.1 21 = .ok (.aload_n 0, 1) := by decide +kernel
theorem dX9_feed_22 : decode mX9_feed.2.1 22 = .ok (.iload_n 2, 1) := by decide +kernel
theorem dX9_feed_23 : decode mX9_feed.2.1 23 = .ok (.invokevirtual 106, 3) := by decide +kernel
theorem dX9_feed_26 : decode mX9_feed.2.1 26 = .ok (.aload_n 0, 1) := by decide +kernel
theorem dX9_feed_27 : decode mX9_feed.2.1 27 = .ok (.iload_n 3, 1) := by decide +kernel
theorem dX9_feed_28 : decode mX9_feed.2.1 28 = .ok (.invokevirtual 106, 3) := by decide +kernel
theorem dX9_feed_31 : decode mX9_feed.2.1 31 = .ok (.aload_n 0, 1) := by decide +kernel
theorem dX9_feed_32 : decode mX9_feed.2.1 32 = .ok (.iload 4, 2) := by decide +kernel
theorem dX9_feed_34 : decode mX9_feed.2.1 34 = .ok (.invokevirtual 106, 3) := by decide +kernel
theorem dX9_feed_37 : decode mX9_feed.2.1 37 = .ok (.aload_n 0, 1) := by decide +kernel
theorem dX9_feed_38 : decode mX9_feed.2.1 38 = .ok (.iload 5, 2) := by decide +kernel
theorem dX9_feed_40 : decode mX9_feed.2.1 40 = .ok (.invokevirtual 106, 3) := by decide +kernel
theorem dX9_feed_43 : decode mX9_feed.2.1 43 = .ok (.aload_n 0, 1) := by decide +kernel
theorem dX9_feed_44 : decode mX9_feed.2.1 44 = .ok (.getfield 13, 3) := by decide +kernel
theorem dX9_feed_47 : decode mX9_feed.2.1 47 = .ok (.ireturn, 1) := by decide +kernel
abbrev mX9_putFour : aM := (yX9_putFour, cX9_putFour, 3, none)
theorem dX9_putFour_0 : decode mX9_putFour.2.1 0 = .ok (.bipush 24, 2) := by decide +kernel
theorem dX9_putFour_2 : decode mX9_putFour.2.1 2 = .ok (.istore_n 2, 1) := by decide +kernel
theorem dX9_putFour_3 : decode mX9_putFour.2.1 3 = .ok (.iload_n 2, 1) := by decide +kernel
theorem dX9_putFour_4 : decode mX9_putFour.2.1 4 = .ok (.ifCond .lt 42, 3) := by decide +kernel
theorem dX9_putFour_7 : decode mX9_putFour.2.1 7 = .ok (.aload_n 0, 1) := by decide +kernel
theorem dX9_putFour_8 : decode mX9_putFour.2.1 8 = .ok (.getfield 13, 3) := by decide +kernel
theorem dX9_putFour_11 : decode mX9_putFour.2.1 11 = .ok (.sipush 1600, 3) := by decide +kernel
theorem dX9_putFour_14 : decode mX9_putFour.2.1 14 = .ok (.if_icmp .ge 32, 3) := by decide +kernel
theorem dX9_putFour_17 : decode mX9_putFour.2.1 17 = .ok (.aload_n 0, 1) := by decide +kernel
theorem dX9_putFour_18 : decode mX9_putFour.2.1 18 = .ok (.getfield 9, 3) := by decide +kernel
theorem dX9_putFour_21 : decode mX9_putFour.2.1 21 = .ok (.aload_n 0, 1) := by decide +kernel
theorem dX9_putFour_22 : decode mX9_putFour.2.1 22 = .ok (.getfield 13, 3) := by decide +kernel
theorem dX9_putFour_25 : decode mX9_putFour.2.1 25 = .ok (.iload_n 1, 1) := by decide +kernel
theorem dX9_putFour_26 : decode mX9_putFour.2.1 26 = .ok (.iload_n 2, 1) := by decide +kernel
theorem dX9_putFour_27 : decode mX9_putFour.2.1 27 = .ok (.ishr, 1) := by decide +kernel
theorem dX9_putFour_28 : decode mX9_putFour.2.1 28 = .ok (.i2b, 1) := by decide +kernel
theorem dX9_putFour_29 : decode mX9_putFour.2.1 29 = .ok (.bastore, 1) := by decide +kernel
theorem dX9_putFour_30 : decode mX9_putFour.2.1 30 = .ok (.aload_n 0, 1) := by decide +kernel
theorem dX9_putFour_31 : decode mX9_putFour.2.1 31 = .ok (.dup, 1) := by decide +kernel
theorem dX9_putFour_32 : decode mX9_putFour.2.1 32 = .ok (.getfield 13, 3) := by decide +kernel
theorem dX9_putFour_35 : decode mX9_putFour.2.1 35 = .ok (.iconst 1, 1) := by decide +kernel
theorem dX9_putFour_36 : decode mX9_putFour.2.1 36 = .ok (.iadd, 1) := by decide +kernel
theorem dX9_putFour_37 : decode mX9_putFour.2.1 37 = .ok (.putfield 13, 3) := by decide +kernel
theorem dX9_putFour_40 : decode mX9_putFour.2.1 40 = .ok (.iinc 2 (-8), 3) := by decide +kernel
theorem dX9_putFour_43 : decode mX9_putFour.2.1 43 = .ok (.goto (-40), 3) := by decide +kernel
theorem dX9_putFour_46 : decode mX9_putFour.2.1 46 = .ok (.return_, 1) := by decide +kernel
abbrev mX9_end : aM := (yX9_end, cX9_end, 2, (some .boolean))
theorem dX9_end_0 : decode mX9_end.2.1 0 = .ok (.iload_n 1, 1) := by decide +kernel
theorem dX9_end_1 : decode mX9_end.2.1 1 = .ok (.ifCond .lt 11, 3) := by decide +kernel
theorem dX9_end_4 : decode mX9_end.2.1 4 = .ok (.iload_n 1, 1) := by decide +kernel
theorem dX9_end_5 : decode mX9_end.2.1 5 = .ok (.aload_n 0, 1) := by decide +kernel
theorem dX9_end_6 : decode mX9_end.2.1 6 = .ok (.getfield 13, 3) := by decide +kernel
theorem dX9_end_9 : decode mX9_end.2.1 9 = .ok (.if_icmp .le 9, 3) := by decide +kernel
theorem dX9_end_12 : decode mX9_end.2.1 12 = .ok (.aload_n 0, 1) := by decide +kernel
theorem dX9_end_13 : decode mX9_end.2.1 13 = .ok (.iconst 0, 1) := by decide +kernel
theorem dX9_end_14 : decode mX9_end.2.1 14 = .ok (.invokevirtual 109, 3) := by decide +kernel
theorem dX9_end_17 : decode mX9_end.2.1 17 = .ok (.ireturn, 1) := by decide +kernel
theorem dX9_end_18 : decode mX9_end.2.1 18 = .ok (.aload_n 0, 1) := by decide +kernel
theorem dX9_end_19 : decode mX9_end.2.1 19 = .ok (.iload_n 1, 1) := by decide +kernel
theorem dX9_end_20 : decode mX9_end.2.1 20 = .ok (.putfield 13, 3) := by decide +kernel
theorem dX9_end_23 : decode mX9_end.2.1 23 = .ok (.iconst 1, 1) := by decide +kernel
theorem dX9_end_24 : decode mX9_end.2.1 24 = .ok (.ireturn, 1) := by decide +kernel
abbrev mX9_chapel : aM := (yX9_chapel, cX9_chapel, 2, (some .int))
theorem dX9_chapel_0 : decode mX9_chapel.2.1 0 = .ok (.new 113, 3) := by decide +kernel
theorem dX9_chapel_3 : decode mX9_chapel.2.1 3 = .ok (.dup, 1) := by decide +kernel
theorem dX9_chapel_4 : decode mX9_chapel.2.1 4 = .ok (.aload_n 0, 1) := by decide +kernel
theorem dX9_chapel_5 : decode mX9_chapel.2.1 5 = .ok (.getfield 9, 3) := by decide +kernel
theorem dX9_chapel_8 : decode mX9_chapel.2.1 8 = .ok (.aload_n 0, 1) := by decide +kernel
theorem dX9_chapel_9 : decode mX9_chapel.2.1 9 = .ok (.getfield 13, 3) := by decide +kernel
theorem dX9_chapel_12 : decode mX9_chapel.2.1 12 = .ok (.invokespecial 115, 3) := by decide +kernel
theorem dX9_chapel_15 : decode mX9_chapel.2.1 15 = .ok (.astore_n 1, 1) := by decide +kernel
theorem dX9_chapel_16 : decode mX9_chapel.2.1 16 = .ok (.aload_n 1, 1) := by decide +kernel
theorem dX9_chapel_17 : decode mX9_chapel.2.1 17 = .ok (.invokevirtual 118, 3) := by decide +kernel
theorem dX9_chapel_20 : decode mX9_chapel.2.1 20 = .ok (.aload_n 0, 1) := by decide +kernel
theorem dX9_chapel_21 : decode mX9_chapel.2.1 21 = .ok (.iconst 0, 1) := by decide +kernel
theorem dX9_chapel_22 : decode mX9_chapel.2.1 22 = .ok (.putfield 13, 3) := by decide +kernel
theorem dX9_chapel_25 : decode mX9_chapel.2.1 25 = .ok (.aload_n 0, 1) := by decide +kernel
theorem dX9_chapel_26 : decode mX9_chapel.2.1 26 = .ok (.aload_n 1, 1) := by decide +kernel
theorem dX9_chapel_27 : decode mX9_chapel.2.1 27 = .ok (.getfield 121, 3) := by decide +kernel
theorem dX9_chapel_30 : decode mX9_chapel.2.1 30 = .ok (.putfield 26, 3) := by decide +kernel
theorem dX9_chapel_33 : decode mX9_chapel.2.1 33 = .ok (.aload_n 0, 1) := by decide +kernel
theorem dX9_chapel_34 : decode mX9_chapel.2.1 34 = .ok (.aload_n 1, 1) := by decide +kernel
theorem dX9_chapel_35 : decode mX9_chapel.2.1 35 = .ok (.getfield 124, 3) := by decide +kernel
theorem dX9_chapel_38 : decode mX9_chapel.2.1 38 = .ok (.putfield 29, 3) := by decide +kernel
theorem dX9_chapel_41 : decode mX9_chapel.2.1 41 = .ok (.aload_n 0, 1) := by decide +kernel
theorem dX9_chapel_42 : decode mX9_chapel.2.1 42 = .ok (.getfield 26, 3) := by decide +kernel
theorem dX9_chapel_45 : decode mX9_chapel.2.1 45 = .ok (.ifCond .eq 9, 3) := by decide +kernel
theorem dX9_chapel_48 : decode mX9_chapel.2.1 48 = .ok (.aload_n 0, 1) := by decide +kernel
theorem dX9_chapel_49 : decode mX9_chapel.2.1 49 = .ok (.iconst 1, 1) := by decide +kernel
theorem dX9_chapel_50 : decode mX9_chapel.2.1 50 = .ok (.invokevirtual 102, 3) := by decide +kernel
theorem dX9_chapel_53 : decode mX9_chapel.2.1 53 = .ok (.ireturn, 1) := by decide +kernel
theorem dX9_chapel_54 : decode mX9_chapel.2.1 54 = .ok (.aload_n 0, 1) := by decide +kernel
theorem dX9_chapel_55 : decode mX9_chapel.2.1 55 = .ok (.aload_n 1, 1) := by decide +kernel
theorem dX9_chapel_56 : decode mX9_chapel.2.1 56 = .ok (.getfield 127, 3) := by decide +kernel
theorem dX9_chapel_59 : decode mX9_chapel.2.1 59 = .ok (.putfield 22, 3) := by decide +kernel
theorem dX9_chapel_62 : decode mX9_chapel.2.1 62 = .ok (.aload_n 0, 1) := by decide +kernel
theorem dX9_chapel_63 : decode mX9_chapel.2.1 63 = .ok (.getfield 47, 3) := by decide +kernel
theorem dX9_chapel_66 : decode mX9_chapel.2.1 66 = .ok (.aload_n 0, 1) := by decide +kernel
theorem dX9_chapel_67 : decode mX9_chapel.2.1 67 = .ok (.getfield 22, 3) := by decide +kernel
theorem dX9_chapel_70 : decode mX9_chapel.2.1 70 = .ok (.putfield 128, 3) := by decide +kernel
theorem dX9_chapel_73 : decode mX9_chapel.2.1 73 = .ok (.aload_n 0, 1) := by decide +kernel
theorem dX9_chapel_74 : decode mX9_chapel.2.1 74 = .ok (.getfield 35, 3) := by decide +kernel
theorem dX9_chapel_77 : decode mX9_chapel.2.1 77 = .ok (.aload_n 0, 1) := by decide +kernel
theorem dX9_chapel_78 : decode mX9_chapel.2.1 78 = .ok (.getfield 22, 3) := by decide +kernel
theorem dX9_chapel_81 : decode mX9_chapel.2.1 81 = .ok (.invokevirtual 129, 3) := by decide +kernel
theorem dX9_chapel_84 : decode mX9_chapel.2.1 84 = .ok (.aload_n 0, 1) := by decide +kernel
theorem dX9_chapel_85 : decode mX9_chapel.2.1 85 = .ok (.getfield 54, 3) := by decide +kernel
theorem dX9_chapel_88 : decode mX9_chapel.2.1 88 = .ok (.invokevirtual 132, 3) := by decide +kernel
theorem dX9_chapel_91 : decode mX9_chapel.2.1 91 = .ok (.aload_n 0, 1) := by decide +kernel
theorem dX9_chapel_92 : decode mX9_chapel.2.1 92 = .ok (.getfield 70, 3) := by decide +kernel
theorem dX9_chapel_95 : decode mX9_chapel.2.1 95 = .ok (.iconst 0, 1) := by decide +kernel
theorem dX9_chapel_96 : decode mX9_chapel.2.1 96 = .ok (.putfield 135, 3) := by decide +kernel
theorem dX9_chapel_99 : decode mX9_chapel.2.1 99 = .ok (.aload_n 0, 1) := by decide +kernel
theorem dX9_chapel_100 : decode mX9_chapel.2.1 100 = .ok (.invokevirtual 138, 3) := by decide +kernel
theorem dX9_chapel_103 : decode mX9_chapel.2.1 103 = .ok (.aload_n 0, 1) := by decide +kernel
theorem dX9_chapel_104 : decode mX9_chapel.2.1 104 = .ok (.getfield 22, 3) := by decide +kernel
theorem dX9_chapel_107 : decode mX9_chapel.2.1 107 = .ok (.getfield 141, 3) := by decide +kernel
theorem dX9_chapel_110 : decode mX9_chapel.2.1 110 = .ok (.ireturn, 1) := by decide +kernel
abbrev mX9_fault : aM := (yX9_fault, cX9_fault, 2, (some .int))
theorem dX9_fault_0 : decode mX9_fault.2.1 0 = .ok (.iload_n 1, 1) := by decide +kernel
theorem dX9_fault_1 : decode mX9_fault.2.1 1 = .ok (.ifCond .ne 8, 3) := by decide +kernel
theorem dX9_fault_4 : decode mX9_fault.2.1 4 = .ok (.aload_n 0, 1) := by decide +kernel
theorem dX9_fault_5 : decode mX9_fault.2.1 5 = .ok (.getfield 26, 3) := by decide +kernel
theorem dX9_fault_8 : decode mX9_fault.2.1 8 = .ok (.ireturn, 1) := by decide +kernel
theorem dX9_fault_9 : decode mX9_fault.2.1 9 = .ok (.iload_n 1, 1) := by decide +kernel
theorem dX9_fault_10 : decode mX9_fault.2.1 10 = .ok (.iconst 1, 1) := by decide +kernel
theorem dX9_fault_11 : decode mX9_fault.2.1 11 = .ok (.if_icmp .ne 10, 3) := by decide +kernel
theorem dX9_fault_14 : decode mX9_fault.2.1 14 = .ok (.aload_n 0, 1) := by decide +kernel
theorem dX9_fault_15 : decode mX9_fault.2.1 15 = .ok (.getfield 29, 3) := by decide +kernel
theorem dX9_fault_18 : decode mX9_fault.2.1 18 = .ok (.goto 4, 3) := by decide +kernel
theorem dX9_fault_21 : decode mX9_fault.2.1 21 = .ok (.iconst (-1), 1) := by decide +kernel
theorem dX9_fault_22 : decode mX9_fault.2.1 22 = .ok (.ireturn, 1) := by decide +kernel
abbrev mX9_has : aM := (yX9_has, cX9_has, 2, (some .int))
theorem dX9_has_0 : decode mX9_has.2.1 0 = .ok (.iload_n 1, 1) := by decide +kernel
theorem dX9_has_1 : decode mX9_has.2.1 1 = .ok (.tableswitch 168 0 11 #[63, 73, 83, 93, 101, 109, 117, 122, 133, 146, 154, 162], 63) := by decide +kernel
theorem dX9_has_64 : decode mX9_has.2.1 64 = .ok (.aload_n 0, 1) := by decide +kernel
theorem dX9_has_65 : decode mX9_has.2.1 65 = .ok (.getfield 22, 3) := by decide +kernel
theorem dX9_has_68 : decode mX9_has.2.1 68 = .ok (.getfield 144, 3) := by decide +kernel
theorem dX9_has_71 : decode mX9_has.2.1 71 = .ok (.iconst 0, 1) := by decide +kernel
theorem dX9_has_72 : decode mX9_has.2.1 72 = .ok (.iaload, 1) := by decide +kernel
theorem dX9_has_73 : decode mX9_has.2.1 73 = .ok (.ireturn, 1) := by decide +kernel
theorem dX9_has_74 : decode mX9_has.2.1 74 = .ok (.aload_n 0, 1) := by decide +kernel
theorem dX9_has_75 : decode mX9_has.2.1 75 = .ok (.getfield 22, 3) := by decide +kernel
theorem dX9_has_78 : decode mX9_has.2.1 78 = .ok (.getfield 144, 3) := by decide +kernel
theorem dX9_has_81 : decode mX9_has.2.1 81 = .ok (.iconst 1, 1) := by decide +kernel
theorem dX9_has_82 : decode mX9_has.2.1 82 = .ok (.iaload, 1) := by decide +kernel
theorem dX9_has_83 : decode mX9_has.2.1 83 = .ok (.ireturn, 1) := by decide +kernel
theorem dX9_has_84 : decode mX9_has.2.1 84 = .ok (.aload_n 0, 1) := by decide +kernel
theorem dX9_has_85 : decode mX9_has.2.1 85 = .ok (.getfield 22, 3) := by decide +kernel
theorem dX9_has_88 : decode mX9_has.2.1 88 = .ok (.getfield 144, 3) := by decide +kernel
theorem dX9_has_91 : decode mX9_has.2.1 91 = .ok (.iconst 2, 1) := by decide +kernel
theorem dX9_has_92 : decode mX9_has.2.1 92 = .ok (.iaload, 1) := by decide +kernel
theorem dX9_has_93 : decode mX9_has.2.1 93 = .ok (.ireturn, 1) := by decide +kernel
theorem dX9_has_94 : decode mX9_has.2.1 94 = .ok (.aload_n 0, 1) := by decide +kernel
theorem dX9_has_95 : decode mX9_has.2.1 95 = .ok (.getfield 35, 3) := by decide +kernel
theorem dX9_has_98 : decode mX9_has.2.1 98 = .ok (.getfield 147, 3) := by decide +kernel
theorem dX9_has_101 : decode mX9_has.2.1 101 = .ok (.ireturn, 1) := by decide +kernel
theorem dX9_has_102 : decode mX9_has.2.1 102 = .ok (.aload_n 0, 1) := by decide +kernel
theorem dX9_has_103 : decode mX9_has.2.1 103 = .ok (.getfield 35, 3) := by decide +kernel
theorem dX9_has_106 : decode mX9_has.2.1 106 = .ok (.getfield 150, 3) := by decide +kernel
theorem dX9_has_109 : decode mX9_has.2.1 109 = .ok (.ireturn, 1) := by decide +kernel
theorem dX9_has_110 : decode mX9_has.2.1 110 = .ok (.aload_n 0, 1) := by decide +kernel
theorem dX9_has_111 : decode mX9_has.2.1 111 = .ok (.getfield 35, 3) := by decide +kernel
theorem dX9_has_114 : decode mX9_has.2.1 114 = .ok (.invokevirtual 153, 3) := by decide +kernel
theorem dX9_has_117 : decode mX9_has.2.1 117 = .ok (.ireturn, 1) := by decide +kernel
theorem dX9_has_118 : decode mX9_has.2.1 118 = .ok (.aload_n 0, 1) := by decide +kernel
theorem dX9_has_119 : decode mX9_has.2.1 119 = .ok (.invokevirtual 157, 3) := by decide +kernel
theorem dX9_has_122 : decode mX9_has.2.1 122 = .ok (.ireturn, 1) := by decide +kernel
theorem dX9_has_123 : decode mX9_has.2.1 123 = .ok (.aload_n 0, 1) := by decide +kernel
theorem dX9_has_124 : decode mX9_has.2.1 124 = .ok (.getfield 35, 3) := by decide +kernel
theorem dX9_has_127 : decode mX9_has.2.1 127 = .ok (.getfield 160, 3) := by decide +kernel
theorem dX9_has_130 : decode mX9_has.2.1 130 = .ok (.invokestatic 163, 3) := by decide +kernel
theorem dX9_has_133 : decode mX9_has.2.1 133 = .ok (.ireturn, 1) := by decide +kernel
theorem dX9_has_134 : decode mX9_has.2.1 134 = .ok (.bipush 40, 2) := by decide +kernel
theorem dX9_has_136 : decode mX9_has.2.1 136 = .ok (.aload_n 0, 1) := by decide +kernel
theorem dX9_has_137 : decode mX9_has.2.1 137 = .ok (.getfield 35, 3) := by decide +kernel
theorem dX9_has_140 : decode mX9_has.2.1 140 = .ok (.getfield 168, 3) := by decide +kernel
theorem dX9_has_143 : decode mX9_has.2.1 143 = .ok (.invokestatic 171, 3) := by decide +kernel
theorem dX9_has_146 : decode mX9_has.2.1 146 = .ok (.ireturn, 1) := by decide +kernel
theorem dX9_has_147 : decode mX9_has.2.1 147 = .ok (.aload_n 0, 1) := by decide +kernel
theorem dX9_has_148 : decode mX9_has.2.1 148 = .ok (.getfield 70, 3) := by decide +kernel
theorem dX9_has_151 : decode mX9_has.2.1 151 = .ok (.getfield 135, 3) := by decide +kernel
theorem dX9_has_154 : decode mX9_has.2.1 154 = .ok (.ireturn, 1) := by decide +kernel
theorem dX9_has_155 : decode mX9_has.2.1 155 = .ok (.aload_n 0, 1) := by decide +kernel
theorem dX9_has_156 : decode mX9_has.2.1 156 = .ok (.getfield 54, 3) := by decide +kernel
theorem dX9_has_159 : decode mX9_has.2.1 159 = .ok (.getfield 177, 3) := by decide +kernel
theorem dX9_has_162 : decode mX9_has.2.1 162 = .ok (.ireturn, 1) := by decide +kernel
theorem dX9_has_163 : decode mX9_has.2.1 163 = .ok (.aload_n 0, 1) := by decide +kernel
theorem dX9_has_164 : decode mX9_has.2.1 164 = .ok (.getfield 88, 3) := by decide +kernel
theorem dX9_has_167 : decode mX9_has.2.1 167 = .ok (.l2i, 1) := by decide +kernel
theorem dX9_has_168 : decode mX9_has.2.1 168 = .ok (.ireturn, 1) := by decide +kernel
theorem dX9_has_169 : decode mX9_has.2.1 169 = .ok (.iconst (-1), 1) := by decide +kernel
theorem dX9_has_170 : decode mX9_has.2.1 170 = .ok (.ireturn, 1) := by decide +kernel
abbrev mX9_bareBoards : aM := (yX9_bareBoards, cX9_bareBoards, 3, (some .int))
theorem dX9_bareBoards_0 : decode mX9_bareBoards.2.1 0 = .ok (.iconst 0, 1) := by decide +kernel
theorem dX9_bareBoards_1 : decode mX9_bareBoards.2.1 1 = .ok (.istore_n 1, 1) := by decide +kernel
theorem dX9_bareBoards_2 : decode mX9_bareBoards.2.1 2 = .ok (.iconst 0, 1) := by decide +kernel
theorem dX9_bareBoards_3 : decode mX9_bareBoards.2.1 3 = .ok (.istore_n 2, 1) := by decide +kernel
theorem dX9_bareBoards_4 : decode mX9_bareBoards.2.1 4 = .ok (.iload_n 2, 1) := by decide +kernel
theorem dX9_bareBoards_5 : decode mX9_bareBoards.2.1 5 = .ok (.aload_n 0, 1) := by decide +kernel
theorem dX9_bareBoards_6 : decode mX9_bareBoards.2.1 6 = .ok (.getfield 22, 3) := by decide +kernel
theorem dX9_bareBoards_9 : decode mX9_bareBoards.2.1 9 = .ok (.getfield 144, 3) := by decide +kernel
theorem dX9_bareBoards_12 : decode mX9_bareBoards.2.1 12 = .ok (.iconst 0, 1) := by decide +kernel
theorem dX9_bareBoards_13 : decode mX9_bareBoards.2.1 13 = .ok (.iaload, 1) := by decide +kernel
theorem dX9_bareBoards_14 : decode mX9_bareBoards.2.1 14 = .ok (.if_icmp .ge 24, 3) := by decide +kernel
theorem dX9_bareBoards_17 : decode mX9_bareBoards.2.1 17 = .ok (.aload_n 0, 1) := by decide +kernel
theorem dX9_bareBoards_18 : decode mX9_bareBoards.2.1 18 = .ok (.getfield 35, 3) := by decide +kernel
theorem dX9_bareBoards_21 : decode mX9_bareBoards.2.1 21 = .ok (.getfield 179, 3) := by decide +kernel
theorem dX9_bareBoards_24 : decode mX9_bareBoards.2.1 24 = .ok (.iload_n 2, 1) := by decide +kernel
theorem dX9_bareBoards_25 : decode mX9_bareBoards.2.1 25 = .ok (.iaload, 1) := by decide +kernel
theorem dX9_bareBoards_26 : decode mX9_bareBoards.2.1 26 = .ok (.ifCond .ne 6, 3) := by decide +kernel
theorem dX9_bareBoards_29 : decode mX9_bareBoards.2.1 29 = .ok (.iinc 1 1, 3) := by decide +kernel
theorem dX9_bareBoards_32 : decode mX9_bareBoards.2.1 32 = .ok (.iinc 2 1, 3) := by decide +kernel
theorem dX9_bareBoards_35 : decode mX9_bareBoards.2.1 35 = .ok (.goto (-31), 3) := by decide +kernel
theorem dX9_bareBoards_38 : decode mX9_bareBoards.2.1 38 = .ok (.iload_n 1, 1) := by decide +kernel
theorem dX9_bareBoards_39 : decode mX9_bareBoards.2.1 39 = .ok (.ireturn, 1) := by decide +kernel
abbrev mX9_letter : aM := (yX9_letter, cX9_letter, 4, (some .int))
theorem dX9_letter_0 : decode mX9_letter.2.1 0 = .ok (.iload_n 1, 1) := by decide +kernel
theorem dX9_letter_1 : decode mX9_letter.2.1 1 = .ok (.ifCond .lt 30, 3) := by decide +kernel
theorem dX9_letter_4 : decode mX9_letter.2.1 4 = .ok (.iload_n 1, 1) := by decide +kernel
theorem dX9_letter_5 : decode mX9_letter.2.1 5 = .ok (.iconst 3, 1) := by decide +kernel
theorem dX9_letter_6 : decode mX9_letter.2.1 6 = .ok (.if_icmp .ge 25, 3) := by decide +kernel
theorem dX9_letter_9 : decode mX9_letter.2.1 9 = .ok (.iload_n 3, 1) := by decide +kernel
theorem dX9_letter_10 : decode mX9_letter.2.1 10 = .ok (.ifCond .lt 21, 3) := by decide +kernel
theorem dX9_letter_13 : decode mX9_letter.2.1 13 = .ok (.iload_n 3, 1) := by decide +kernel
theorem dX9_letter_14 : decode mX9_letter.2.1 14 = .ok (.bipush 6, 2) := by decide +kernel
theorem dX9_letter_16 : decode mX9_letter.2.1 16 = .ok (.if_icmp .ge 15, 3) := by decide +kernel
theorem dX9_letter_19 : decode mX9_letter.2.1 19 = .ok (.aload_n 0, 1) := by decide +kernel
theorem dX9_letter_20 : decode mX9_letter.2.1 20 = .ok (.getfield 22, 3) := by decide +kernel
theorem dX9_letter_23 : decode mX9_letter.2.1 23 = .ok (.iload_n 1, 1) := by decide +kernel
theorem dX9_letter_24 : decode mX9_letter.2.1 24 = .ok (.iload_n 2, 1) := by decide +kernel
theorem dX9_letter_25 : decode mX9_letter.2.1 25 = .ok (.invokevirtual 182, 3) := by decide +kernel
theorem dX9_letter_28 : decode mX9_letter.2.1 28 = .ok (.ifCond .ne 5, 3) := by decide +kernel
theorem dX9_letter_31 : decode mX9_letter.2.1 31 = .ok (.iconst (-1), 1) := by decide +kernel
theorem dX9_letter_32 : decode mX9_letter.2.1 32 = .ok (.ireturn, 1) := by decide +kernel
theorem dX9_letter_33 : decode mX9_letter.2.1 33 = .ok (.aload_n 0, 1) := by decide +kernel
theorem dX9_letter_34 : decode mX9_letter.2.1 34 = .ok (.getfield 22, 3) := by decide +kernel
theorem dX9_letter_37 : decode mX9_letter.2.1 37 = .ok (.getfield 186, 3) := by decide +kernel
theorem dX9_letter_40 : decode mX9_letter.2.1 40 = .ok (.iload_n 1, 1) := by decide +kernel
theorem dX9_letter_41 : decode mX9_letter.2.1 41 = .ok (.bipush 6, 2) := by decide +kernel
theorem dX9_letter_43 : decode mX9_letter.2.1 43 = .ok (.imul, 1) := by decide +kernel
theorem dX9_letter_44 : decode mX9_letter.2.1 44 = .ok (.iload_n 2, 1) := by decide +kernel
theorem dX9_letter_45 : decode mX9_letter.2.1 45 = .ok (.iadd, 1) := by decide +kernel
theorem dX9_letter_46 : decode mX9_letter.2.1 46 = .ok (.iaload, 1) := by decide +kernel
theorem dX9_letter_47 : decode mX9_letter.2.1 47 = .ok (.iconst 5, 1) := by decide +kernel
theorem dX9_letter_48 : decode mX9_letter.2.1 48 = .ok (.iconst 5, 1) := by decide +kernel
theorem dX9_letter_49 : decode mX9_letter.2.1 49 = .ok (.iload_n 3, 1) := by decide +kernel
theorem dX9_letter_50 : decode mX9_letter.2.1 50 = .ok (.isub, 1) := by decide +kernel
theorem dX9_letter_51 : decode mX9_letter.2.1 51 = .ok (.imul, 1) := by decide +kernel
theorem dX9_letter_52 : decode mX9_letter.2.1 52 = .ok (.ishr, 1) := by decide +kernel
theorem dX9_letter_53 : decode mX9_letter.2.1 53 = .ok (.bipush 31, 2) := by decide +kernel
theorem dX9_letter_55 : decode mX9_letter.2.1 55 = .ok (.iand, 1) := by decide +kernel
theorem dX9_letter_56 : decode mX9_letter.2.1 56 = .ok (.ireturn, 1) := by decide +kernel
abbrev mX9_board : aM := (yX9_board, cX9_board, 3, (some .int))
theorem dX9_board_0 : decode mX9_board.2.1 0 = .ok (.aload_n 0, 1) := by decide +kernel
theorem dX9_board_1 : decode mX9_board.2.1 1 = .ok (.getfield 22, 3) := by decide +kernel
theorem dX9_board_4 : decode mX9_board.2.1 4 = .ok (.iconst 0, 1) := by decide +kernel
theorem dX9_board_5 : decode mX9_board.2.1 5 = .ok (.iload_n 1, 1) := by decide +kernel
theorem dX9_board_6 : decode mX9_board.2.1 6 = .ok (.invokevirtual 182, 3) := by decide +kernel
theorem dX9_board_9 : decode mX9_board.2.1 9 = .ok (.ifCond .eq 12, 3) := by decide +kernel
theorem dX9_board_12 : decode mX9_board.2.1 12 = .ok (.iload_n 2, 1) := by decide +kernel
theorem dX9_board_13 : decode mX9_board.2.1 13 = .ok (.ifCond .lt 8, 3) := by decide +kernel
theorem dX9_board_16 : decode mX9_board.2.1 16 = .ok (.iload_n 2, 1) := by decide +kernel
theorem dX9_board_17 : decode mX9_board.2.1 17 = .ok (.iconst 1, 1) := by decide +kernel
theorem dX9_board_18 : decode mX9_board.2.1 18 = .ok (.if_icmp .le 5, 3) := by decide +kernel
theorem dX9_board_21 : decode mX9_board.2.1 21 = .ok (.iconst (-1), 1) := by decide +kernel
theorem dX9_board_22 : decode mX9_board.2.1 22 = .ok (.ireturn, 1) := by decide +kernel
theorem dX9_board_23 : decode mX9_board.2.1 23 = .ok (.iload_n 2, 1) := by decide +kernel
theorem dX9_board_24 : decode mX9_board.2.1 24 = .ok (.ifCond .ne 14, 3) := by decide +kernel
theorem dX9_board_27 : decode mX9_board.2.1 27 = .ok (.aload_n 0, 1) := by decide +kernel
theorem dX9_board_28 : decode mX9_board.2.1 28 = .ok (.getfield 22, 3) := by decide +kernel
theorem dX9_board_31 : decode mX9_board.2.1 31 = .ok (.iload_n 1, 1) := by decide +kernel
theorem dX9_board_32 : decode mX9_board.2.1 32 = .ok (.invokevirtual 189, 3) := by decide +kernel
theorem dX9_board_35 : decode mX9_board.2.1 35 = .ok (.goto 12, 3) := by decide +kernel
theorem dX9_board_38 : decode mX9_board.2.1 38 = .ok (.aload_n 0, 1) := by decide +kernel
theorem dX9_board_39 : decode mX9_board.2.1 39 = .ok (.getfield 35, 3) := by decide +kernel
theorem dX9_board_42 : decode mX9_board.2.1 42 = .ok (.getfield 179, 3) := by decide +kernel
theorem dX9_board_45 : decode mX9_board.2.1 45 = .ok (.iload_n 1, 1) := by decide +kernel
theorem dX9_board_46 : decode mX9_board.2.1 46 = .ok (.iaload, 1) := by decide +kernel
theorem dX9_board_47 : decode mX9_board.2.1 47 = .ok (.ireturn, 1) := by decide +kernel
abbrev mX9_stain : aM := (yX9_stain, cX9_stain, 3, (some .int))
theorem dX9_stain_0 : decode mX9_stain.2.1 0 = .ok (.aload_n 0, 1) := by decide +kernel
theorem dX9_stain_1 : decode mX9_stain.2.1 1 = .ok (.getfield 22, 3) := by decide +kernel
theorem dX9_stain_4 : decode mX9_stain.2.1 4 = .ok (.iconst 1, 1) := by decide +kernel
theorem dX9_stain_5 : decode mX9_stain.2.1 5 = .ok (.iload_n 1, 1) := by decide +kernel
theorem dX9_stain_6 : decode mX9_stain.2.1 6 = .ok (.invokevirtual 182, 3) := by decide +kernel
theorem dX9_stain_9 : decode mX9_stain.2.1 9 = .ok (.ifCond .eq 12, 3) := by decide +kernel
theorem dX9_stain_12 : decode mX9_stain.2.1 12 = .ok (.iload_n 2, 1) := by decide +kernel
theorem dX9_stain_13 : decode mX9_stain.2.1 13 = .ok (.ifCond .lt 8, 3) := by decide +kernel
theorem dX9_stain_16 : decode mX9_stain.2.1 16 = .ok (.iload_n 2, 1) := by decide +kernel
theorem dX9_stain_17 : decode mX9_stain.2.1 17 = .ok (.iconst 1, 1) := by decide +kernel
theorem dX9_stain_18 : decode mX9_stain.2.1 18 = .ok (.if_icmp .le 5, 3) := by decide +kernel
theorem dX9_stain_21 : decode mX9_stain.2.1 21 = .ok (.iconst (-1), 1) := by decide +kernel
theorem dX9_stain_22 : decode mX9_stain.2.1 22 = .ok (.ireturn, 1) := by decide +kernel
theorem dX9_stain_23 : decode mX9_stain.2.1 23 = .ok (.iload_n 2, 1) := by decide +kernel
theorem dX9_stain_24 : decode mX9_stain.2.1 24 = .ok (.ifCond .ne 15, 3) := by decide +kernel
theorem dX9_stain_27 : decode mX9_stain.2.1 27 = .ok (.aload_n 0, 1) := by decide +kernel
theorem dX9_stain_28 : decode mX9_stain.2.1 28 = .ok (.getfield 35, 3) := by decide +kernel
theorem dX9_stain_31 : decode mX9_stain.2.1 31 = .ok (.getfield 192, 3) := by decide +kernel
theorem dX9_stain_34 : decode mX9_stain.2.1 34 = .ok (.iload_n 1, 1) := by decide +kernel
theorem dX9_stain_35 : decode mX9_stain.2.1 35 = .ok (.iaload, 1) := by decide +kernel
theorem dX9_stain_36 : decode mX9_stain.2.1 36 = .ok (.goto 11, 3) := by decide +kernel
theorem dX9_stain_39 : decode mX9_stain.2.1 39 = .ok (.aload_n 0, 1) := by decide +kernel
theorem dX9_stain_40 : decode mX9_stain.2.1 40 = .ok (.getfield 22, 3) := by decide +kernel
theorem dX9_stain_43 : decode mX9_stain.2.1 43 = .ok (.iload_n 1, 1) := by decide +kernel
theorem dX9_stain_44 : decode mX9_stain.2.1 44 = .ok (.invokevirtual 195, 3) := by decide +kernel
theorem dX9_stain_47 : decode mX9_stain.2.1 47 = .ok (.ireturn, 1) := by decide +kernel
abbrev mX9_hearer : aM := (yX9_hearer, cX9_hearer, 3, (some .int))
theorem dX9_hearer_0 : decode mX9_hearer.2.1 0 = .ok (.aload_n 0, 1) := by decide +kernel
theorem dX9_hearer_1 : decode mX9_hearer.2.1 1 = .ok (.getfield 22, 3) := by decide +kernel
theorem dX9_hearer_4 : decode mX9_hearer.2.1 4 = .ok (.iconst 2, 1) := by decide +kernel
theorem dX9_hearer_5 : decode mX9_hearer.2.1 5 = .ok (.iload_n 1, 1) := by decide +kernel
theorem dX9_hearer_6 : decode mX9_hearer.2.1 6 = .ok (.invokevirtual 182, 3) := by decide +kernel
theorem dX9_hearer_9 : decode mX9_hearer.2.1 9 = .ok (.ifCond .eq 12, 3) := by decide +kernel
theorem dX9_hearer_12 : decode mX9_hearer.2.1 12 = .ok (.iload_n 2, 1) := by decide +kernel
theorem dX9_hearer_13 : decode mX9_hearer.2.1 13 = .ok (.ifCond .lt 8, 3) := by decide +kernel
theorem dX9_hearer_16 : decode mX9_hearer.2.1 16 = .ok (.iload_n 2, 1) := by decide +kernel
theorem dX9_hearer_17 : decode mX9_hearer.2.1 17 = .ok (.iconst 2, 1) := by decide +kernel
theorem dX9_hearer_18 : decode mX9_hearer.2.1 18 = .ok (.if_icmp .le 5, 3) := by decide +kernel
theorem dX9_hearer_21 : decode mX9_hearer.2.1 21 = .ok (.iconst (-1), 1) := by decide +kernel
theorem dX9_hearer_22 : decode mX9_hearer.2.1 22 = .ok (.ireturn, 1) := by decide +kernel
theorem dX9_hearer_23 : decode mX9_hearer.2.1 23 = .ok (.iload_n 2, 1) := by decide +kernel
theorem dX9_hearer_24 : decode mX9_hearer.2.1 24 = .ok (.iconst 2, 1) := by decide +kernel
theorem dX9_hearer_25 : decode mX9_hearer.2.1 25 = .ok (.if_icmp .ne 15, 3) := by decide +kernel
theorem dX9_hearer_28 : decode mX9_hearer.2.1 28 = .ok (.aload_n 0, 1) := by decide +kernel
theorem dX9_hearer_29 : decode mX9_hearer.2.1 29 = .ok (.getfield 35, 3) := by decide +kernel
theorem dX9_hearer_32 : decode mX9_hearer.2.1 32 = .ok (.getfield 160, 3) := by decide +kernel
theorem dX9_hearer_35 : decode mX9_hearer.2.1 35 = .ok (.iload_n 1, 1) := by decide +kernel
theorem dX9_hearer_36 : decode mX9_hearer.2.1 36 = .ok (.ishr, 1) := by decide +kernel
theorem dX9_hearer_37 : decode mX9_hearer.2.1 37 = .ok (.iconst 1, 1) := by decide +kernel
theorem dX9_hearer_38 : decode mX9_hearer.2.1 38 = .ok (.iand, 1) := by decide +kernel
theorem dX9_hearer_39 : decode mX9_hearer.2.1 39 = .ok (.ireturn, 1) := by decide +kernel
theorem dX9_hearer_40 : decode mX9_hearer.2.1 40 = .ok (.iload_n 2, 1) := by decide +kernel
theorem dX9_hearer_41 : decode mX9_hearer.2.1 41 = .ok (.ifCond .ne 14, 3) := by decide +kernel
theorem dX9_hearer_44 : decode mX9_hearer.2.1 44 = .ok (.aload_n 0, 1) := by decide +kernel
theorem dX9_hearer_45 : decode mX9_hearer.2.1 45 = .ok (.getfield 22, 3) := by decide +kernel
theorem dX9_hearer_48 : decode mX9_hearer.2.1 48 = .ok (.iload_n 1, 1) := by decide +kernel
theorem dX9_hearer_49 : decode mX9_hearer.2.1 49 = .ok (.invokevirtual 198, 3) := by decide +kernel
theorem dX9_hearer_52 : decode mX9_hearer.2.1 52 = .ok (.goto 11, 3) := by decide +kernel
theorem dX9_hearer_55 : decode mX9_hearer.2.1 55 = .ok (.aload_n 0, 1) := by decide +kernel
theorem dX9_hearer_56 : decode mX9_hearer.2.1 56 = .ok (.getfield 22, 3) := by decide +kernel
theorem dX9_hearer_59 : decode mX9_hearer.2.1 59 = .ok (.iload_n 1, 1) := by decide +kernel
theorem dX9_hearer_60 : decode mX9_hearer.2.1 60 = .ok (.invokevirtual 201, 3) := by decide +kernel
theorem dX9_hearer_63 : decode mX9_hearer.2.1 63 = .ok (.ireturn, 1) := by decide +kernel
abbrev mX9_strokes : aM := (yX9_strokes, cX9_strokes, 4, (some .int))
theorem dX9_strokes_0 : decode mX9_strokes.2.1 0 = .ok (.aload_n 0, 1) := by decide +kernel
theorem dX9_strokes_1 : decode mX9_strokes.2.1 1 = .ok (.iload_n 1, 1) := by decide +kernel
theorem dX9_strokes_2 : decode mX9_strokes.2.1 2 = .ok (.iload_n 2, 1) := by decide +kernel
theorem dX9_strokes_3 : decode mX9_strokes.2.1 3 = .ok (.invokevirtual 204, 3) := by decide +kernel
theorem dX9_strokes_6 : decode mX9_strokes.2.1 6 = .ok (.ifCond .eq 13, 3) := by decide +kernel
theorem dX9_strokes_9 : decode mX9_strokes.2.1 9 = .ok (.iload_n 3, 1) := by decide +kernel
theorem dX9_strokes_10 : decode mX9_strokes.2.1 10 = .ok (.ifCond .lt 9, 3) := by decide +kernel
theorem dX9_strokes_13 : decode mX9_strokes.2.1 13 = .ok (.iload_n 3, 1) := by decide +kernel
theorem dX9_strokes_14 : decode mX9_strokes.2.1 14 = .ok (.bipush 40, 2) := by decide +kernel
theorem dX9_strokes_16 : decode mX9_strokes.2.1 16 = .ok (.if_icmp .le 5, 3) := by decide +kernel
theorem dX9_strokes_19 : decode mX9_strokes.2.1 19 = .ok (.iconst (-1), 1) := by decide +kernel
theorem dX9_strokes_20 : decode mX9_strokes.2.1 20 = .ok (.ireturn, 1) := by decide +kernel
theorem dX9_strokes_21 : decode mX9_strokes.2.1 21 = .ok (.aload_n 0, 1) := by decide +kernel
theorem dX9_strokes_22 : decode mX9_strokes.2.1 22 = .ok (.getfield 47, 3) := by decide +kernel
theorem dX9_strokes_25 : decode mX9_strokes.2.1 25 = .ok (.aload_n 0, 1) := by decide +kernel
theorem dX9_strokes_26 : decode mX9_strokes.2.1 26 = .ok (.getfield 35, 3) := by decide +kernel
theorem dX9_strokes_29 : decode mX9_strokes.2.1 29 = .ok (.iload_n 1, 1) := by decide +kernel
theorem dX9_strokes_30 : decode mX9_strokes.2.1 30 = .ok (.iload_n 2, 1) := by decide +kernel
theorem dX9_strokes_31 : decode mX9_strokes.2.1 31 = .ok (.invokevirtual 207, 3) := by decide +kernel
theorem dX9_strokes_34 : decode mX9_strokes.2.1 34 = .ok (.aload_n 0, 1) := by decide +kernel
theorem dX9_strokes_35 : decode mX9_strokes.2.1 35 = .ok (.getfield 47, 3) := by decide +kernel
theorem dX9_strokes_38 : decode mX9_strokes.2.1 38 = .ok (.iload_n 3, 1) := by decide +kernel
theorem dX9_strokes_39 : decode mX9_strokes.2.1 39 = .ok (.invokevirtual 211, 3) := by decide +kernel
theorem dX9_strokes_42 : decode mX9_strokes.2.1 42 = .ok (.aload_n 0, 1) := by decide +kernel
theorem dX9_strokes_43 : decode mX9_strokes.2.1 43 = .ok (.getfield 47, 3) := by decide +kernel
theorem dX9_strokes_46 : decode mX9_strokes.2.1 46 = .ok (.getfield 214, 3) := by decide +kernel
theorem dX9_strokes_49 : decode mX9_strokes.2.1 49 = .ok (.ireturn, 1) := by decide +kernel
abbrev mX9_needed : aM := (yX9_needed, cX9_needed, 4, (some .int))
theorem dX9_needed_0 : decode mX9_needed.2.1 0 = .ok (.aload_n 0, 1) := by decide +kernel
theorem dX9_needed_1 : decode mX9_needed.2.1 1 = .ok (.iload_n 1, 1) := by decide +kernel
theorem dX9_needed_2 : decode mX9_needed.2.1 2 = .ok (.iload_n 2, 1) := by decide +kernel
theorem dX9_needed_3 : decode mX9_needed.2.1 3 = .ok (.invokevirtual 204, 3) := by decide +kernel
theorem dX9_needed_6 : decode mX9_needed.2.1 6 = .ok (.ifCond .eq 28, 3) := by decide +kernel
theorem dX9_needed_9 : decode mX9_needed.2.1 9 = .ok (.iload_n 3, 1) := by decide +kernel
theorem dX9_needed_10 : decode mX9_needed.2.1 10 = .ok (.ifCond .lt 24, 3) := by decide +kernel
theorem dX9_needed_13 : decode mX9_needed.2.1 13 = .ok (.iload_n 3, 1) := by decide +kernel
theorem dX9_needed_14 : decode mX9_needed.2.1 14 = .ok (.iconst 1, 1) := by decide +kernel
theorem dX9_needed_15 : decode mX9_needed.2.1 15 = .ok (.if_icmp .gt 19, 3) := by decide +kernel
theorem dX9_needed_18 : decode mX9_needed.2.1 18 = .ok (.aload_n 0, 1) := by decide +kernel
theorem dX9_needed_19 : decode mX9_needed.2.1 19 = .ok (.getfield 47, 3) := by decide +kernel
theorem dX9_needed_22 : decode mX9_needed.2.1 22 = .ok (.aload_n 0, 1) := by decide +kernel
theorem dX9_needed_23 : decode mX9_needed.2.1 23 = .ok (.getfield 35, 3) := by decide +kernel
theorem dX9_needed_26 : decode mX9_needed.2.1 26 = .ok (.iload_n 1, 1) := by decide +kernel
theorem dX9_needed_27 : decode mX9_needed.2.1 27 = .ok (.iload_n 2, 1) := by decide +kernel
theorem dX9_needed_28 : decode mX9_needed.2.1 28 = .ok (.invokevirtual 216, 3) := by decide +kernel
theorem dX9_needed_31 : decode mX9_needed.2.1 31 = .ok (.ifCond .ne 5, 3) := by decide +kernel
theorem dX9_needed_34 : decode mX9_needed.2.1 34 = .ok (.iconst (-1), 1) := by decide +kernel
theorem dX9_needed_35 : decode mX9_needed.2.1 35 = .ok (.ireturn, 1) := by decide +kernel
theorem dX9_needed_36 : decode mX9_needed.2.1 36 = .ok (.iload_n 3, 1) := by decide +kernel
theorem dX9_needed_37 : decode mX9_needed.2.1 37 = .ok (.ifCond .ne 11, 3) := by decide +kernel
theorem dX9_needed_40 : decode mX9_needed.2.1 40 = .ok (.aload_n 0, 1) := by decide +kernel
theorem dX9_needed_41 : decode mX9_needed.2.1 41 = .ok (.getfield 47, 3) := by decide +kernel
theorem dX9_needed_44 : decode mX9_needed.2.1 44 = .ok (.getfield 220, 3) := by decide +kernel
theorem dX9_needed_47 : decode mX9_needed.2.1 47 = .ok (.ireturn, 1) := by decide +kernel
theorem dX9_needed_48 : decode mX9_needed.2.1 48 = .ok (.aload_n 0, 1) := by decide +kernel
theorem dX9_needed_49 : decode mX9_needed.2.1 49 = .ok (.getfield 47, 3) := by decide +kernel
theorem dX9_needed_52 : decode mX9_needed.2.1 52 = .ok (.getfield 223, 3) := by decide +kernel
theorem dX9_needed_55 : decode mX9_needed.2.1 55 = .ok (.ifCond .le 7, 3) := by decide +kernel
theorem dX9_needed_58 : decode mX9_needed.2.1 58 = .ok (.iconst 1, 1) := by decide +kernel
theorem dX9_needed_59 : decode mX9_needed.2.1 59 = .ok (.goto 4, 3) := by decide +kernel
theorem dX9_needed_62 : decode mX9_needed.2.1 62 = .ok (.iconst 0, 1) := by decide +kernel
theorem dX9_needed_63 : decode mX9_needed.2.1 63 = .ok (.ireturn, 1) := by decide +kernel
abbrev mX9_best : aM := (yX9_best, cX9_best, 5, (some .int))
theorem dX9_best_0 : decode mX9_best.2.1 0 = .ok (.aload_n 0, 1) := by decide +kernel
theorem dX9_best_1 : decode mX9_best.2.1 1 = .ok (.getfield 22, 3) := by decide +kernel
theorem dX9_best_4 : decode mX9_best.2.1 4 = .ok (.iconst 1, 1) := by decide +kernel
theorem dX9_best_5 : decode mX9_best.2.1 5 = .ok (.iload_n 1, 1) := by decide +kernel
theorem dX9_best_6 : decode mX9_best.2.1 6 = .ok (.invokevirtual 182, 3) := by decide +kernel
theorem dX9_best_9 : decode mX9_best.2.1 9 = .ok (.ifCond .ne 5, 3) := by decide +kernel
theorem dX9_best_12 : decode mX9_best.2.1 12 = .ok (.iconst (-1), 1) := by decide +kernel
theorem dX9_best_13 : decode mX9_best.2.1 13 = .ok (.ireturn, 1) := by decide +kernel
theorem dX9_best_14 : decode mX9_best.2.1 14 = .ok (.iconst (-1), 1) := by decide +kernel
theorem dX9_best_15 : decode mX9_best.2.1 15 = .ok (.istore_n 2, 1) := by decide +kernel
theorem dX9_best_16 : decode mX9_best.2.1 16 = .ok (.bipush 100, 2) := by decide +kernel
theorem dX9_best_18 : decode mX9_best.2.1 18 = .ok (.istore_n 3, 1) := by decide +kernel
theorem dX9_best_19 : decode mX9_best.2.1 19 = .ok (.iconst 0, 1) := by decide +kernel
theorem dX9_best_20 : decode mX9_best.2.1 20 = .ok (.istore 4, 2) := by decide +kernel
theorem dX9_best_22 : decode mX9_best.2.1 22 = .ok (.iload 4, 2) := by decide +kernel
theorem dX9_best_24 : decode mX9_best.2.1 24 = .ok (.aload_n 0, 1) := by decide +kernel
theorem dX9_best_25 : decode mX9_best.2.1 25 = .ok (.getfield 22, 3) := by decide +kernel
theorem dX9_best_28 : decode mX9_best.2.1 28 = .ok (.getfield 144, 3) := by decide +kernel
theorem dX9_best_31 : decode mX9_best.2.1 31 = .ok (.iconst 0, 1) := by decide +kernel
theorem dX9_best_32 : decode mX9_best.2.1 32 = .ok (.iaload, 1) := by decide +kernel
theorem dX9_best_33 : decode mX9_best.2.1 33 = .ok (.if_icmp .ge 48, 3) := by decide +kernel
theorem dX9_best_36 : decode mX9_best.2.1 36 = .ok (.aload_n 0, 1) := by decide +kernel
theorem dX9_best_37 : decode mX9_best.2.1 37 = .ok (.getfield 47, 3) := by decide +kernel
theorem dX9_best_40 : decode mX9_best.2.1 40 = .ok (.aload_n 0, 1) := by decide +kernel
theorem dX9_best_41 : decode mX9_best.2.1 41 = .ok (.getfield 35, 3) := by decide +kernel
theorem dX9_best_44 : decode mX9_best.2.1 44 = .ok (.iload 4, 2) := by decide +kernel
theorem dX9_best_46 : decode mX9_best.2.1 46 = .ok (.iload_n 1, 1) := by decide +kernel
theorem dX9_best_47 : decode mX9_best.2.1 47 = .ok (.invokevirtual 216, 3) := by decide +kernel
theorem dX9_best_50 : decode mX9_best.2.1 50 = .ok (.ifCond .eq 25, 3) := by decide +kernel
theorem dX9_best_53 : decode mX9_best.2.1 53 = .ok (.aload_n 0, 1) := by decide +kernel
theorem dX9_best_54 : decode mX9_best.2.1 54 = .ok (.getfield 47, 3) := by decide +kernel
theorem dX9_best_57 : decode mX9_best.2.1 57 = .ok (.getfield 220, 3) := by decide +kernel
theorem dX9_best_60 : decode mX9_best.2.1 60 = .ok (.iload_n 3, 1) := by decide +kernel
theorem dX9_best_61 : decode mX9_best.2.1 61 = .ok (.if_icmp .ge 14, 3) := by decide +kernel
theorem dX9_best_64 : decode mX9_best.2.1 64 = .ok (.iload 4, 2) := by decide +kernel
theorem dX9_best_66 : decode mX9_best.2.1 66 = .ok (.istore_n 2, 1) := by decide +kernel
theorem dX9_best_67 : decode mX9_best.2.1 67 = .ok (.aload_n 0, 1) := by decide +kernel
theorem dX9_best_68 : decode mX9_best.2.1 68 = .ok (.getfield 47, 3) := by decide +kernel
theorem dX9_best_71 : decode mX9_best.2.1 71 = .ok (.getfield 220, 3) := by decide +kernel
theorem dX9_best_74 : decode mX9_best.2.1 74 = .ok (.istore_n 3, 1) := by decide +kernel
theorem dX9_best_75 : decode mX9_best.2.1 75 = .ok (.iinc 4 1, 3) := by decide +kernel
theorem dX9_best_78 : decode mX9_best.2.1 78 = .ok (.goto (-56), 3) := by decide +kernel
theorem dX9_best_81 : decode mX9_best.2.1 81 = .ok (.iload_n 2, 1) := by decide +kernel
theorem dX9_best_82 : decode mX9_best.2.1 82 = .ok (.ireturn, 1) := by decide +kernel
abbrev mX9_match : aM := (yX9_match, cX9_match, 2, (some .int))
theorem dX9_match_0 : decode mX9_match.2.1 0 = .ok (.iload_n 1, 1) := by decide +kernel
theorem dX9_match_1 : decode mX9_match.2.1 1 = .ok (.iconst (-1), 1) := by decide +kernel
theorem dX9_match_2 : decode mX9_match.2.1 2 = .ok (.if_icmp .eq 17, 3) := by decide +kernel
theorem dX9_match_5 : decode mX9_match.2.1 5 = .ok (.aload_n 0, 1) := by decide +kernel
theorem dX9_match_6 : decode mX9_match.2.1 6 = .ok (.getfield 22, 3) := by decide +kernel
theorem dX9_match_9 : decode mX9_match.2.1 9 = .ok (.iconst 1, 1) := by decide +kernel
theorem dX9_match_10 : decode mX9_match.2.1 10 = .ok (.iload_n 1, 1) := by decide +kernel
theorem dX9_match_11 : decode mX9_match.2.1 11 = .ok (.invokevirtual 182, 3) := by decide +kernel
theorem dX9_match_14 : decode mX9_match.2.1 14 = .ok (.ifCond .ne 5, 3) := by decide +kernel
theorem dX9_match_17 : decode mX9_match.2.1 17 = .ok (.iconst (-1), 1) := by decide +kernel
theorem dX9_match_18 : decode mX9_match.2.1 18 = .ok (.ireturn, 1) := by decide +kernel
theorem dX9_match_19 : decode mX9_match.2.1 19 = .ok (.aload_n 0, 1) := by decide +kernel
theorem dX9_match_20 : decode mX9_match.2.1 20 = .ok (.getfield 77, 3) := by decide +kernel
theorem dX9_match_23 : decode mX9_match.2.1 23 = .ok (.getfield 225, 3) := by decide +kernel
theorem dX9_match_26 : decode mX9_match.2.1 26 = .ok (.ifCond .ne 10, 3) := by decide +kernel
theorem dX9_match_29 : decode mX9_match.2.1 29 = .ok (.aload_n 0, 1) := by decide +kernel
theorem dX9_match_30 : decode mX9_match.2.1 30 = .ok (.getfield 77, 3) := by decide +kernel
theorem dX9_match_33 : decode mX9_match.2.1 33 = .ok (.invokevirtual 229, 3) := by decide +kernel
theorem dX9_match_36 : decode mX9_match.2.1 36 = .ok (.aload_n 0, 1) := by decide +kernel
theorem dX9_match_37 : decode mX9_match.2.1 37 = .ok (.getfield 77, 3) := by decide +kernel
theorem dX9_match_40 : decode mX9_match.2.1 40 = .ok (.getfield 232, 3) := by decide +kernel
theorem dX9_match_43 : decode mX9_match.2.1 43 = .ok (.iconst (-1), 1) := by decide +kernel
theorem dX9_match_44 : decode mX9_match.2.1 44 = .ok (.if_icmp .ne 5, 3) := by decide +kernel
theorem dX9_match_47 : decode mX9_match.2.1 47 = .ok (.iconst (-1), 1) := by decide +kernel
theorem dX9_match_48 : decode mX9_match.2.1 48 = .ok (.ireturn, 1) := by decide +kernel
theorem dX9_match_49 : decode mX9_match.2.1 49 = .ok (.iload_n 1, 1) := by decide +kernel
theorem dX9_match_50 : decode mX9_match.2.1 50 = .ok (.iconst (-1), 1) := by decide +kernel
theorem dX9_match_51 : decode mX9_match.2.1 51 = .ok (.if_icmp .ne 13, 3) := by decide +kernel
theorem dX9_match_54 : decode mX9_match.2.1 54 = .ok (.aload_n 0, 1) := by decide +kernel
theorem dX9_match_55 : decode mX9_match.2.1 55 = .ok (.getfield 77, 3) := by decide +kernel
theorem dX9_match_58 : decode mX9_match.2.1 58 = .ok (.getfield 232, 3) := by decide +kernel
theorem dX9_match_61 : decode mX9_match.2.1 61 = .ok (.goto 12, 3) := by decide +kernel
theorem dX9_match_64 : decode mX9_match.2.1 64 = .ok (.aload_n 0, 1) := by decide +kernel
theorem dX9_match_65 : decode mX9_match.2.1 65 = .ok (.getfield 77, 3) := by decide +kernel
theorem dX9_match_68 : decode mX9_match.2.1 68 = .ok (.getfield 235, 3) := by decide +kernel
theorem dX9_match_71 : decode mX9_match.2.1 71 = .ok (.iload_n 1, 1) := by decide +kernel
theorem dX9_match_72 : decode mX9_match.2.1 72 = .ok (.iaload, 1) := by decide +kernel
theorem dX9_match_73 : decode mX9_match.2.1 73 = .ok (.ireturn, 1) := by decide +kernel
abbrev mX9_heads : aM := (yX9_heads, cX9_heads, 3, (some .int))
theorem dX9_heads_0 : decode mX9_heads.2.1 0 = .ok (.aload_n 0, 1) := by decide +kernel
theorem dX9_heads_1 : decode mX9_heads.2.1 1 = .ok (.getfield 22, 3) := by decide +kernel
theorem dX9_heads_4 : decode mX9_heads.2.1 4 = .ok (.iconst 0, 1) := by decide +kernel
theorem dX9_heads_5 : decode mX9_heads.2.1 5 = .ok (.iload_n 1, 1) := by decide +kernel
theorem dX9_heads_6 : decode mX9_heads.2.1 6 = .ok (.invokevirtual 182, 3) := by decide +kernel
theorem dX9_heads_9 : decode mX9_heads.2.1 9 = .ok (.ifCond .eq 7, 3) := by decide +kernel
theorem dX9_heads_12 : decode mX9_heads.2.1 12 = .ok (.iload_n 2, 1) := by decide +kernel
theorem dX9_heads_13 : decode mX9_heads.2.1 13 = .ok (.ifCond .ge 5, 3) := by decide +kernel
theorem dX9_heads_16 : decode mX9_heads.2.1 16 = .ok (.iconst (-1), 1) := by decide +kernel
theorem dX9_heads_17 : decode mX9_heads.2.1 17 = .ok (.ireturn, 1) := by decide +kernel
theorem dX9_heads_18 : decode mX9_heads.2.1 18 = .ok (.aload_n 0, 1) := by decide +kernel
theorem dX9_heads_19 : decode mX9_heads.2.1 19 = .ok (.getfield 84, 3) := by decide +kernel
theorem dX9_heads_22 : decode mX9_heads.2.1 22 = .ok (.getfield 238, 3) := by decide +kernel
theorem dX9_heads_25 : decode mX9_heads.2.1 25 = .ok (.iload_n 1, 1) := by decide +kernel
theorem dX9_heads_26 : decode mX9_heads.2.1 26 = .ok (.if_icmp .eq 11, 3) := by decide +kernel
theorem dX9_heads_29 : decode mX9_heads.2.1 29 = .ok (.aload_n 0, 1) := by decide +kernel
theorem dX9_heads_30 : decode mX9_heads.2.1 30 = .ok (.getfield 84, 3) := by decide +kernel
theorem dX9_heads_33 : decode mX9_heads.2.1 33 = .ok (.iload_n 1, 1) := by decide +kernel
theorem dX9_heads_34 : decode mX9_heads.2.1 34 = .ok (.invokevirtual 241, 3) := by decide +kernel
theorem dX9_heads_37 : decode mX9_heads.2.1 37 = .ok (.iload_n 2, 1) := by decide +kernel
theorem dX9_heads_38 : decode mX9_heads.2.1 38 = .ok (.ifCond .ne 11, 3) := by decide +kernel
theorem dX9_heads_41 : decode mX9_heads.2.1 41 = .ok (.aload_n 0, 1) := by decide +kernel
theorem dX9_heads_42 : decode mX9_heads.2.1 42 = .ok (.getfield 84, 3) := by decide +kernel
theorem dX9_heads_45 : decode mX9_heads.2.1 45 = .ok (.getfield 243, 3) := by decide +kernel
theorem dX9_heads_48 : decode mX9_heads.2.1 48 = .ok (.ireturn, 1) := by decide +kernel
theorem dX9_heads_49 : decode mX9_heads.2.1 49 = .ok (.iload_n 2, 1) := by decide +kernel
theorem dX9_heads_50 : decode mX9_heads.2.1 50 = .ok (.iconst 1, 1) := by decide +kernel
theorem dX9_heads_51 : decode mX9_heads.2.1 51 = .ok (.if_icmp .ne 11, 3) := by decide +kernel
theorem dX9_heads_54 : decode mX9_heads.2.1 54 = .ok (.aload_n 0, 1) := by decide +kernel
theorem dX9_heads_55 : decode mX9_heads.2.1 55 = .ok (.getfield 84, 3) := by decide +kernel
theorem dX9_heads_58 : decode mX9_heads.2.1 58 = .ok (.getfield 246, 3) := by decide +kernel
theorem dX9_heads_61 : decode mX9_heads.2.1 61 = .ok (.ireturn, 1) := by decide +kernel
theorem dX9_heads_62 : decode mX9_heads.2.1 62 = .ok (.iload_n 2, 1) := by decide +kernel
theorem dX9_heads_63 : decode mX9_heads.2.1 63 = .ok (.iconst 2, 1) := by decide +kernel
theorem dX9_heads_64 : decode mX9_heads.2.1 64 = .ok (.isub, 1) := by decide +kernel
theorem dX9_heads_65 : decode mX9_heads.2.1 65 = .ok (.aload_n 0, 1) := by decide +kernel
theorem dX9_heads_66 : decode mX9_heads.2.1 66 = .ok (.getfield 84, 3) := by decide +kernel
theorem dX9_heads_69 : decode mX9_heads.2.1 69 = .ok (.getfield 243, 3) := by decide +kernel
theorem dX9_heads_72 : decode mX9_heads.2.1 72 = .ok (.if_icmp .ge 17, 3) := by decide +kernel
theorem dX9_heads_75 : decode mX9_heads.2.1 75 = .ok (.aload_n 0, 1) := by decide +kernel
theorem dX9_heads_76 : decode mX9_heads.2.1 76 = .ok (.getfield 84, 3) := by decide +kernel
theorem dX9_heads_79 : decode mX9_heads.2.1 79 = .ok (.getfield 247, 3) := by decide +kernel
theorem dX9_heads_82 : decode mX9_heads.2.1 82 = .ok (.iload_n 2, 1) := by decide +kernel
theorem dX9_heads_83 : decode mX9_heads.2.1 83 = .ok (.iconst 2, 1) := by decide +kernel
theorem dX9_heads_84 : decode mX9_heads.2.1 84 = .ok (.isub, 1) := by decide +kernel
theorem dX9_heads_85 : decode mX9_heads.2.1 85 = .ok (.iaload, 1) := by decide +kernel
theorem dX9_heads_86 : decode mX9_heads.2.1 86 = .ok (.goto 4, 3) := by decide +kernel
theorem dX9_heads_89 : decode mX9_heads.2.1 89 = .ok (.iconst (-1), 1) := by decide +kernel
theorem dX9_heads_90 : decode mX9_heads.2.1 90 = .ok (.ireturn, 1) := by decide +kernel
abbrev mX9_areThere : aM := (yX9_areThere, cX9_areThere, 3, (some .boolean))
theorem dX9_areThere_0 : decode mX9_areThere.2.1 0 = .ok (.aload_n 0, 1) := by decide +kernel
theorem dX9_areThere_1 : decode mX9_areThere.2.1 1 = .ok (.getfield 22, 3) := by decide +kernel
theorem dX9_areThere_4 : decode mX9_areThere.2.1 4 = .ok (.iconst 0, 1) := by decide +kernel
theorem dX9_areThere_5 : decode mX9_areThere.2.1 5 = .ok (.iload_n 1, 1) := by decide +kernel
theorem dX9_areThere_6 : decode mX9_areThere.2.1 6 = .ok (.invokevirtual 182, 3) := by decide +kernel
theorem dX9_areThere_9 : decode mX9_areThere.2.1 9 = .ok (.ifCond .eq 19, 3) := by decide +kernel
theorem dX9_areThere_12 : decode mX9_areThere.2.1 12 = .ok (.aload_n 0, 1) := by decide +kernel
theorem dX9_areThere_13 : decode mX9_areThere.2.1 13 = .ok (.getfield 22, 3) := by decide +kernel
theorem dX9_areThere_16 : decode mX9_areThere.2.1 16 = .ok (.iconst 1, 1) := by decide +kernel
theorem dX9_areThere_17 : decode mX9_areThere.2.1 17 = .ok (.iload_n 2, 1) := by decide +kernel
theorem dX9_areThere_18 : decode mX9_areThere.2.1 18 = .ok (.invokevirtual 182, 3) := by decide +kernel
theorem dX9_areThere_21 : decode mX9_areThere.2.1 21 = .ok (.ifCond .eq 7, 3) := by decide +kernel
theorem dX9_areThere_24 : decode mX9_areThere.2.1 24 = .ok (.iconst 1, 1) := by decide +kernel
theorem dX9_areThere_25 : decode mX9_areThere.2.1 25 = .ok (.goto 4, 3) := by decide +kernel
theorem dX9_areThere_28 : decode mX9_areThere.2.1 28 = .ok (.iconst 0, 1) := by decide +kernel
theorem dX9_areThere_29 : decode mX9_areThere.2.1 29 = .ok (.ireturn, 1) := by decide +kernel
abbrev mX9_later : aM := (yX9_later, cX9_later, 3, (some .int))
theorem dX9_later_0 : decode mX9_later.2.1 0 = .ok (.aload_n 0, 1) := by decide +kernel
theorem dX9_later_1 : decode mX9_later.2.1 1 = .ok (.getfield 22, 3) := by decide +kernel
theorem dX9_later_4 : decode mX9_later.2.1 4 = .ok (.iconst 1, 1) := by decide +kernel
theorem dX9_later_5 : decode mX9_later.2.1 5 = .ok (.iload_n 1, 1) := by decide +kernel
theorem dX9_later_6 : decode mX9_later.2.1 6 = .ok (.invokevirtual 182, 3) := by decide +kernel
theorem dX9_later_9 : decode mX9_later.2.1 9 = .ok (.ifCond .eq 11, 3) := by decide +kernel
theorem dX9_later_12 : decode mX9_later.2.1 12 = .ok (.aload_n 0, 1) := by decide +kernel
theorem dX9_later_13 : decode mX9_later.2.1 13 = .ok (.iload_n 2, 1) := by decide +kernel
theorem dX9_later_14 : decode mX9_later.2.1 14 = .ok (.invokevirtual 248, 3) := by decide +kernel
theorem dX9_later_17 : decode mX9_later.2.1 17 = .ok (.ifCond .ne 5, 3) := by decide +kernel
theorem dX9_later_20 : decode mX9_later.2.1 20 = .ok (.iconst (-1), 1) := by decide +kernel
theorem dX9_later_21 : decode mX9_later.2.1 21 = .ok (.ireturn, 1) := by decide +kernel
theorem dX9_later_22 : decode mX9_later.2.1 22 = .ok (.aload_n 0, 1) := by decide +kernel
theorem dX9_later_23 : decode mX9_later.2.1 23 = .ok (.iload_n 2, 1) := by decide +kernel
theorem dX9_later_24 : decode mX9_later.2.1 24 = .ok (.invokevirtual 251, 3) := by decide +kernel
theorem dX9_later_27 : decode mX9_later.2.1 27 = .ok (.aload_n 0, 1) := by decide +kernel
theorem dX9_later_28 : decode mX9_later.2.1 28 = .ok (.getfield 39, 3) := by decide +kernel
theorem dX9_later_31 : decode mX9_later.2.1 31 = .ok (.getfield 192, 3) := by decide +kernel
theorem dX9_later_34 : decode mX9_later.2.1 34 = .ok (.iload_n 1, 1) := by decide +kernel
theorem dX9_later_35 : decode mX9_later.2.1 35 = .ok (.iaload, 1) := by decide +kernel
theorem dX9_later_36 : decode mX9_later.2.1 36 = .ok (.ireturn, 1) := by decide +kernel
abbrev mX9_worn : aM := (yX9_worn, cX9_worn, 3, (some .int))
theorem dX9_worn_0 : decode mX9_worn.2.1 0 = .ok (.aload_n 0, 1) := by decide +kernel
theorem dX9_worn_1 : decode mX9_worn.2.1 1 = .ok (.getfield 22, 3) := by decide +kernel
theorem dX9_worn_4 : decode mX9_worn.2.1 4 = .ok (.iconst 0, 1) := by decide +kernel
theorem dX9_worn_5 : decode mX9_worn.2.1 5 = .ok (.iload_n 1, 1) := by decide +kernel
theorem dX9_worn_6 : decode mX9_worn.2.1 6 = .ok (.invokevirtual 182, 3) := by decide +kernel
theorem dX9_worn_9 : decode mX9_worn.2.1 9 = .ok (.ifCond .eq 11, 3) := by decide +kernel
theorem dX9_worn_12 : decode mX9_worn.2.1 12 = .ok (.aload_n 0, 1) := by decide +kernel
theorem dX9_worn_13 : decode mX9_worn.2.1 13 = .ok (.iload_n 2, 1) := by decide +kernel
theorem dX9_worn_14 : decode mX9_worn.2.1 14 = .ok (.invokevirtual 248, 3) := by decide +kernel
theorem dX9_worn_17 : decode mX9_worn.2.1 17 = .ok (.ifCond .ne 5, 3) := by decide +kernel
theorem dX9_worn_20 : decode mX9_worn.2.1 20 = .ok (.iconst (-1), 1) := by decide +kernel
theorem dX9_worn_21 : decode mX9_worn.2.1 21 = .ok (.ireturn, 1) := by decide +kernel
theorem dX9_worn_22 : decode mX9_worn.2.1 22 = .ok (.aload_n 0, 1) := by decide +kernel
theorem dX9_worn_23 : decode mX9_worn.2.1 23 = .ok (.iload_n 2, 1) := by decide +kernel
theorem dX9_worn_24 : decode mX9_worn.2.1 24 = .ok (.invokevirtual 251, 3) := by decide +kernel
theorem dX9_worn_27 : decode mX9_worn.2.1 27 = .ok (.aload_n 0, 1) := by decide +kernel
theorem dX9_worn_28 : decode mX9_worn.2.1 28 = .ok (.getfield 39, 3) := by decide +kernel
theorem dX9_worn_31 : decode mX9_worn.2.1 31 = .ok (.getfield 179, 3) := by decide +kernel
theorem dX9_worn_34 : decode mX9_worn.2.1 34 = .ok (.iload_n 1, 1) := by decide +kernel
theorem dX9_worn_35 : decode mX9_worn.2.1 35 = .ok (.iaload, 1) := by decide +kernel
theorem dX9_worn_36 : decode mX9_worn.2.1 36 = .ok (.ireturn, 1) := by decide +kernel
abbrev mX9_saved : aM := (yX9_saved, cX9_saved, 2, (some .int))
theorem dX9_saved_0 : decode mX9_saved.2.1 0 = .ok (.aload_n 0, 1) := by decide +kernel
theorem dX9_saved_1 : decode mX9_saved.2.1 1 = .ok (.iload_n 1, 1) := by decide +kernel
theorem dX9_saved_2 : decode mX9_saved.2.1 2 = .ok (.invokevirtual 248, 3) := by decide +kernel
theorem dX9_saved_5 : decode mX9_saved.2.1 5 = .ok (.ifCond .ne 5, 3) := by decide +kernel
theorem dX9_saved_8 : decode mX9_saved.2.1 8 = .ok (.iconst (-1), 1) := by decide +kernel
theorem dX9_saved_9 : decode mX9_saved.2.1 9 = .ok (.ireturn, 1) := by decide +kernel
theorem dX9_saved_10 : decode mX9_saved.2.1 10 = .ok (.aload_n 0, 1) := by decide +kernel
theorem dX9_saved_11 : decode mX9_saved.2.1 11 = .ok (.iload_n 1, 1) := by decide +kernel
theorem dX9_saved_12 : decode mX9_saved.2.1 12 = .ok (.invokevirtual 251, 3) := by decide +kernel
theorem dX9_saved_15 : decode mX9_saved.2.1 15 = .ok (.aload_n 0, 1) := by decide +kernel
theorem dX9_saved_16 : decode mX9_saved.2.1 16 = .ok (.getfield 39, 3) := by decide +kernel
theorem dX9_saved_19 : decode mX9_saved.2.1 19 = .ok (.getfield 160, 3) := by decide +kernel
theorem dX9_saved_22 : decode mX9_saved.2.1 22 = .ok (.ireturn, 1) := by decide +kernel
abbrev mX9_clean : aM := (yX9_clean, cX9_clean, 2, (some .int))
theorem dX9_clean_0 : decode mX9_clean.2.1 0 = .ok (.aload_n 0, 1) := by decide +kernel
theorem dX9_clean_1 : decode mX9_clean.2.1 1 = .ok (.getfield 39, 3) := by decide +kernel
theorem dX9_clean_4 : decode mX9_clean.2.1 4 = .ok (.aload_n 0, 1) := by decide +kernel
theorem dX9_clean_5 : decode mX9_clean.2.1 5 = .ok (.getfield 35, 3) := by decide +kernel
theorem dX9_clean_8 : decode mX9_clean.2.1 8 = .ok (.invokevirtual 254, 3) := by decide +kernel
theorem dX9_clean_11 : decode mX9_clean.2.1 11 = .ok (.iconst 0, 1) := by decide +kernel
theorem dX9_clean_12 : decode mX9_clean.2.1 12 = .ok (.istore_n 1, 1) := by decide +kernel
theorem dX9_clean_13 : decode mX9_clean.2.1 13 = .ok (.iload_n 1, 1) := by decide +kernel
theorem dX9_clean_14 : decode mX9_clean.2.1 14 = .ok (.bipush 40, 2) := by decide +kernel
theorem dX9_clean_16 : decode mX9_clean.2.1 16 = .ok (.if_icmp .gt 41, 3) := by decide +kernel
theorem dX9_clean_19 : decode mX9_clean.2.1 19 = .ok (.aload_n 0, 1) := by decide +kernel
theorem dX9_clean_20 : decode mX9_clean.2.1 20 = .ok (.iload_n 1, 1) := by decide +kernel
theorem dX9_clean_21 : decode mX9_clean.2.1 21 = .ok (.invokevirtual 248, 3) := by decide +kernel
theorem dX9_clean_24 : decode mX9_clean.2.1 24 = .ok (.ifCond .eq 33, 3) := by decide +kernel
theorem dX9_clean_27 : decode mX9_clean.2.1 27 = .ok (.aload_n 0, 1) := by decide +kernel
theorem dX9_clean_28 : decode mX9_clean.2.1 28 = .ok (.getfield 39, 3) := by decide +kernel
theorem dX9_clean_31 : decode mX9_clean.2.1 31 = .ok (.invokevirtual 153, 3) := by decide +kernel
theorem dX9_clean_34 : decode mX9_clean.2.1 34 = .ok (.ifCond .ne 5, 3) := by decide +kernel
theorem dX9_clean_37 : decode mX9_clean.2.1 37 = .ok (.iload_n 1, 1) := by decide +kernel
theorem dX9_clean_38 : decode mX9_clean.2.1 38 = .ok (.ireturn, 1) := by decide +kernel
theorem dX9_clean_39 : decode mX9_clean.2.1 39 = .ok (.aload_n 0, 1) := by decide +kernel
theorem dX9_clean_40 : decode mX9_clean.2.1 40 = .ok (.getfield 47, 3) := by decide +kernel
theorem dX9_clean_43 : decode mX9_clean.2.1 43 = .ok (.aload_n 0, 1) := by decide +kernel
theorem dX9_clean_44 : decode mX9_clean.2.1 44 = .ok (.getfield 39, 3) := by decide +kernel
theorem dX9_clean_47 : decode mX9_clean.2.1 47 = .ok (.iconst 0, 1) := by decide +kernel
theorem dX9_clean_48 : decode mX9_clean.2.1 48 = .ok (.invokevirtual 258, 3) := by decide +kernel
theorem dX9_clean_51 : decode mX9_clean.2.1 51 = .ok (.iinc 1 1, 3) := by decide +kernel
theorem dX9_clean_54 : decode mX9_clean.2.1 54 = .ok (.goto (-41), 3) := by decide +kernel
theorem dX9_clean_57 : decode mX9_clean.2.1 57 = .ok (.iconst (-1), 1) := by decide +kernel
theorem dX9_clean_58 : decode mX9_clean.2.1 58 = .ok (.ireturn, 1) := by decide +kernel
abbrev mX9_canPass : aM := (yX9_canPass, cX9_canPass, 2, (some .boolean))
theorem dX9_canPass_0 : decode mX9_canPass.2.1 0 = .ok (.iload_n 1, 1) := by decide +kernel
theorem dX9_canPass_1 : decode mX9_canPass.2.1 1 = .ok (.ifCond .lt 28, 3) := by decide +kernel
theorem dX9_canPass_4 : decode mX9_canPass.2.1 4 = .ok (.iload_n 1, 1) := by decide +kernel
theorem dX9_canPass_5 : decode mX9_canPass.2.1 5 = .ok (.bipush 40, 2) := by decide +kernel
theorem dX9_canPass_7 : decode mX9_canPass.2.1 7 = .ok (.if_icmp .gt 22, 3) := by decide +kernel
theorem dX9_canPass_10 : decode mX9_canPass.2.1 10 = .ok (.iload_n 1, 1) := by decide +kernel
theorem dX9_canPass_11 : decode mX9_canPass.2.1 11 = .ok (.sipush 999, 3) := by decide +kernel
theorem dX9_canPass_14 : decode mX9_canPass.2.1 14 = .ok (.aload_n 0, 1) := by decide +kernel
theorem dX9_canPass_15 : decode mX9_canPass.2.1 15 = .ok (.getfield 35, 3) := by decide +kernel
theorem dX9_canPass_18 : decode mX9_canPass.2.1 18 = .ok (.getfield 147, 3) := by decide +kernel
theorem dX9_canPass_21 : decode mX9_canPass.2.1 21 = .ok (.isub, 1) := by decide +kernel
theorem dX9_canPass_22 : decode mX9_canPass.2.1 22 = .ok (.if_icmp .gt 7, 3) := by decide +kernel
theorem dX9_canPass_25 : decode mX9_canPass.2.1 25 = .ok (.iconst 1, 1) := by decide +kernel
theorem dX9_canPass_26 : decode mX9_canPass.2.1 26 = .ok (.goto 4, 3) := by decide +kernel
theorem dX9_canPass_29 : decode mX9_canPass.2.1 29 = .ok (.iconst 0, 1) := by decide +kernel
theorem dX9_canPass_30 : decode mX9_canPass.2.1 30 = .ok (.ireturn, 1) := by decide +kernel
abbrev mX9_goAhead : aM := (yX9_goAhead, cX9_goAhead, 3, none)
theorem dX9_goAhead_0 : decode mX9_goAhead.2.1 0 = .ok (.aload_n 0, 1) := by decide +kernel
theorem dX9_goAhead_1 : decode mX9_goAhead.2.1 1 = .ok (.getfield 39, 3) := by decide +kernel
theorem dX9_goAhead_4 : decode mX9_goAhead.2.1 4 = .ok (.aload_n 0, 1) := by decide +kernel
theorem dX9_goAhead_5 : decode mX9_goAhead.2.1 5 = .ok (.getfield 35, 3) := by decide +kernel
theorem dX9_goAhead_8 : decode mX9_goAhead.2.1 8 = .ok (.invokevirtual 254, 3) := by decide +kernel
theorem dX9_goAhead_11 : decode mX9_goAhead.2.1 11 = .ok (.iconst 0, 1) := by decide +kernel
theorem dX9_goAhead_12 : decode mX9_goAhead.2.1 12 = .ok (.istore_n 2, 1) := by decide +kernel
theorem dX9_goAhead_13 : decode mX9_goAhead.2.1 13 = .ok (.iload_n 2, 1) := by decide +kernel
theorem dX9_goAhead_14 : decode mX9_goAhead.2.1 14 = .ok (.iload_n 1, 1) := by decide +kernel
theorem dX9_goAhead_15 : decode mX9_goAhead.2.1 15 = .ok (.if_icmp .ge 21, 3) := by decide +kernel
theorem dX9_goAhead_18 : decode mX9_goAhead.2.1 18 = .ok (.aload_n 0, 1) := by decide +kernel
theorem dX9_goAhead_19 : decode mX9_goAhead.2.1 19 = .ok (.getfield 47, 3) := by decide +kernel
theorem dX9_goAhead_22 : decode mX9_goAhead.2.1 22 = .ok (.aload_n 0, 1) := by decide +kernel
theorem dX9_goAhead_23 : decode mX9_goAhead.2.1 23 = .ok (.getfield 39, 3) := by decide +kernel
theorem dX9_goAhead_26 : decode mX9_goAhead.2.1 26 = .ok (.iconst 0, 1) := by decide +kernel
theorem dX9_goAhead_27 : decode mX9_goAhead.2.1 27 = .ok (.invokevirtual 258, 3) := by decide +kernel
theorem dX9_goAhead_30 : decode mX9_goAhead.2.1 30 = .ok (.iinc 2 1, 3) := by decide +kernel
theorem dX9_goAhead_33 : decode mX9_goAhead.2.1 33 = .ok (.goto (-20), 3) := by decide +kernel
theorem dX9_goAhead_36 : decode mX9_goAhead.2.1 36 = .ok (.return_, 1) := by decide +kernel
abbrev mX9_see : aM := (yX9_see, cX9_see, 2, (some .int))
theorem dX9_see_0 : decode mX9_see.2.1 0 = .ok (.aload_n 0, 1) := by decide +kernel
theorem dX9_see_1 : decode mX9_see.2.1 1 = .ok (.getfield 13, 3) := by decide +kernel
theorem dX9_see_4 : decode mX9_see.2.1 4 = .ok (.istore_n 1, 1) := by decide +kernel
theorem dX9_see_5 : decode mX9_see.2.1 5 = .ok (.aload_n 0, 1) := by decide +kernel
theorem dX9_see_6 : decode mX9_see.2.1 6 = .ok (.iconst 0, 1) := by decide +kernel
theorem dX9_see_7 : decode mX9_see.2.1 7 = .ok (.putfield 13, 3) := by decide +kernel
theorem dX9_see_10 : decode mX9_see.2.1 10 = .ok (.aload_n 0, 1) := by decide +kernel
theorem dX9_see_11 : decode mX9_see.2.1 11 = .ok (.getfield 70, 3) := by decide +kernel
theorem dX9_see_14 : decode mX9_see.2.1 14 = .ok (.aload_n 0, 1) := by decide +kernel
theorem dX9_see_15 : decode mX9_see.2.1 15 = .ok (.getfield 9, 3) := by decide +kernel
theorem dX9_see_18 : decode mX9_see.2.1 18 = .ok (.iload_n 1, 1) := by decide +kernel
theorem dX9_see_19 : decode mX9_see.2.1 19 = .ok (.aload_n 0, 1) := by decide +kernel
theorem dX9_see_20 : decode mX9_see.2.1 20 = .ok (.getfield 22, 3) := by decide +kernel
theorem dX9_see_23 : decode mX9_see.2.1 23 = .ok (.getfield 144, 3) := by decide +kernel
theorem dX9_see_26 : decode mX9_see.2.1 26 = .ok (.iconst 0, 1) := by decide +kernel
theorem dX9_see_27 : decode mX9_see.2.1 27 = .ok (.iaload, 1) := by decide +kernel
theorem dX9_see_28 : decode mX9_see.2.1 28 = .ok (.invokevirtual 262, 3) := by decide +kernel
theorem dX9_see_31 : decode mX9_see.2.1 31 = .ok (.ifCond .ne 9, 3) := by decide +kernel
theorem dX9_see_34 : decode mX9_see.2.1 34 = .ok (.aload_n 0, 1) := by decide +kernel
theorem dX9_see_35 : decode mX9_see.2.1 35 = .ok (.iconst 5, 1) := by decide +kernel
theorem dX9_see_36 : decode mX9_see.2.1 36 = .ok (.invokevirtual 102, 3) := by decide +kernel
theorem dX9_see_39 : decode mX9_see.2.1 39 = .ok (.ireturn, 1) := by decide +kernel
theorem dX9_see_40 : decode mX9_see.2.1 40 = .ok (.aload_n 0, 1) := by decide +kernel
theorem dX9_see_41 : decode mX9_see.2.1 41 = .ok (.getfield 70, 3) := by decide +kernel
theorem dX9_see_44 : decode mX9_see.2.1 44 = .ok (.getfield 135, 3) := by decide +kernel
theorem dX9_see_47 : decode mX9_see.2.1 47 = .ok (.ireturn, 1) := by decide +kernel
abbrev mX9_which : aM := (yX9_which, cX9_which, 1, (some .int))
theorem dX9_which_0 : decode mX9_which.2.1 0 = .ok (.aload_n 0, 1) := by decide +kernel
theorem dX9_which_1 : decode mX9_which.2.1 1 = .ok (.getfield 70, 3) := by decide +kernel
theorem dX9_which_4 : decode mX9_which.2.1 4 = .ok (.invokevirtual 266, 3) := by decide +kernel
theorem dX9_which_7 : decode mX9_which.2.1 7 = .ok (.ireturn, 1) := by decide +kernel
abbrev mX9_tells : aM := (yX9_tells, cX9_tells, 4, (some .int))
theorem dX9_tells_0 : decode mX9_tells.2.1 0 = .ok (.aload_n 0, 1) := by decide +kernel
theorem dX9_tells_1 : decode mX9_tells.2.1 1 = .ok (.getfield 22, 3) := by decide +kernel
theorem dX9_tells_4 : decode mX9_tells.2.1 4 = .ok (.iconst 0, 1) := by decide +kernel
theorem dX9_tells_5 : decode mX9_tells.2.1 5 = .ok (.iload_n 1, 1) := by decide +kernel
theorem dX9_tells_6 : decode mX9_tells.2.1 6 = .ok (.invokevirtual 182, 3) := by decide +kernel
theorem dX9_tells_9 : decode mX9_tells.2.1 9 = .ok (.ifCond .eq 12, 3) := by decide +kernel
theorem dX9_tells_12 : decode mX9_tells.2.1 12 = .ok (.iload_n 2, 1) := by decide +kernel
theorem dX9_tells_13 : decode mX9_tells.2.1 13 = .ok (.ifCond .lt 8, 3) := by decide +kernel
theorem dX9_tells_16 : decode mX9_tells.2.1 16 = .ok (.iload_n 2, 1) := by decide +kernel
theorem dX9_tells_17 : decode mX9_tells.2.1 17 = .ok (.iconst 1, 1) := by decide +kernel
theorem dX9_tells_18 : decode mX9_tells.2.1 18 = .ok (.if_icmp .le 5, 3) := by decide +kernel
theorem dX9_tells_21 : decode mX9_tells.2.1 21 = .ok (.iconst (-1), 1) := by decide +kernel
theorem dX9_tells_22 : decode mX9_tells.2.1 22 = .ok (.ireturn, 1) := by decide +kernel
theorem dX9_tells_23 : decode mX9_tells.2.1 23 = .ok (.aload_n 0, 1) := by decide +kernel
theorem dX9_tells_24 : decode mX9_tells.2.1 24 = .ok (.getfield 70, 3) := by decide +kernel
theorem dX9_tells_27 : decode mX9_tells.2.1 27 = .ok (.invokevirtual 266, 3) := by decide +kernel
theorem dX9_tells_30 : decode mX9_tells.2.1 30 = .ok (.istore_n 3, 1) := by decide +kernel
theorem dX9_tells_31 : decode mX9_tells.2.1 31 = .ok (.iload_n 3, 1) := by decide +kernel
theorem dX9_tells_32 : decode mX9_tells.2.1 32 = .ok (.ifCond .ne 5, 3) := by decide +kernel
theorem dX9_tells_35 : decode mX9_tells.2.1 35 = .ok (.iconst (-1), 1) := by decide +kernel
theorem dX9_tells_36 : decode mX9_tells.2.1 36 = .ok (.ireturn, 1) := by decide +kernel
theorem dX9_tells_37 : decode mX9_tells.2.1 37 = .ok (.aload_n 0, 1) := by decide +kernel
theorem dX9_tells_38 : decode mX9_tells.2.1 38 = .ok (.getfield 70, 3) := by decide +kernel
theorem dX9_tells_41 : decode mX9_tells.2.1 41 = .ok (.iload_n 1, 1) := by decide +kernel
theorem dX9_tells_42 : decode mX9_tells.2.1 42 = .ok (.iload_n 3, 1) := by decide +kernel
theorem dX9_tells_43 : decode mX9_tells.2.1 43 = .ok (.invokevirtual 269, 3) := by decide +kernel
theorem dX9_tells_46 : decode mX9_tells.2.1 46 = .ok (.iload_n 2, 1) := by decide +kernel
theorem dX9_tells_47 : decode mX9_tells.2.1 47 = .ok (.ifCond .ne 13, 3) := by decide +kernel
theorem dX9_tells_50 : decode mX9_tells.2.1 50 = .ok (.aload_n 0, 1) := by decide +kernel
theorem dX9_tells_51 : decode mX9_tells.2.1 51 = .ok (.getfield 70, 3) := by decide +kernel
theorem dX9_tells_54 : decode mX9_tells.2.1 54 = .ok (.getfield 273, 3) := by decide +kernel
theorem dX9_tells_57 : decode mX9_tells.2.1 57 = .ok (.goto 10, 3) := by decide +kernel
theorem dX9_tells_60 : decode mX9_tells.2.1 60 = .ok (.aload_n 0, 1) := by decide +kernel
theorem dX9_tells_61 : decode mX9_tells.2.1 61 = .ok (.getfield 70, 3) := by decide +kernel
theorem dX9_tells_64 : decode mX9_tells.2.1 64 = .ok (.getfield 276, 3) := by decide +kernel
theorem dX9_tells_67 : decode mX9_tells.2.1 67 = .ok (.ireturn, 1) := by decide +kernel
abbrev mX9_weeks : aM := (yX9_weeks, cX9_weeks, 4, (some .int))
theorem dX9_weeks_0 : decode mX9_weeks.2.1 0 = .ok (.iload_n 1, 1) := by decide +kernel
theorem dX9_weeks_1 : decode mX9_weeks.2.1 1 = .ok (.iconst 1, 1) := by decide +kernel
theorem dX9_weeks_2 : decode mX9_weeks.2.1 2 = .ok (.if_icmp .lt 11, 3) := by decide +kernel
theorem dX9_weeks_5 : decode mX9_weeks.2.1 5 = .ok (.aload_n 0, 1) := by decide +kernel
theorem dX9_weeks_6 : decode mX9_weeks.2.1 6 = .ok (.iload_n 1, 1) := by decide +kernel
theorem dX9_weeks_7 : decode mX9_weeks.2.1 7 = .ok (.invokevirtual 248, 3) := by decide +kernel
theorem dX9_weeks_10 : decode mX9_weeks.2.1 10 = .ok (.ifCond .ne 9, 3) := by decide +kernel
theorem dX9_weeks_13 : decode mX9_weeks.2.1 13 = .ok (.aload_n 0, 1) := by decide +kernel
theorem dX9_weeks_14 : decode mX9_weeks.2.1 14 = .ok (.iconst 2, 1) := by decide +kernel
theorem dX9_weeks_15 : decode mX9_weeks.2.1 15 = .ok (.invokevirtual 102, 3) := by decide +kernel
theorem dX9_weeks_18 : decode mX9_weeks.2.1 18 = .ok (.ireturn, 1) := by decide +kernel
theorem dX9_weeks_19 : decode mX9_weeks.2.1 19 = .ok (.aload_n 0, 1) := by decide +kernel
theorem dX9_weeks_20 : decode mX9_weeks.2.1 20 = .ok (.invokevirtual 279, 3) := by decide +kernel
theorem dX9_weeks_23 : decode mX9_weeks.2.1 23 = .ok (.iconst 0, 1) := by decide +kernel
theorem dX9_weeks_24 : decode mX9_weeks.2.1 24 = .ok (.istore_n 2, 1) := by decide +kernel
theorem dX9_weeks_25 : decode mX9_weeks.2.1 25 = .ok (.iconst 0, 1) := by decide +kernel
theorem dX9_weeks_26 : decode mX9_weeks.2.1 26 = .ok (.istore_n 3, 1) := by decide +kernel
theorem dX9_weeks_27 : decode mX9_weeks.2.1 27 = .ok (.iload_n 3, 1) := by decide +kernel
theorem dX9_weeks_28 : decode mX9_weeks.2.1 28 = .ok (.iload_n 1, 1) := by decide +kernel
theorem dX9_weeks_29 : decode mX9_weeks.2.1 29 = .ok (.if_icmp .ge 24, 3) := by decide +kernel
theorem dX9_weeks_32 : decode mX9_weeks.2.1 32 = .ok (.aload_n 0, 1) := by decide +kernel
theorem dX9_weeks_33 : decode mX9_weeks.2.1 33 = .ok (.iconst 0, 1) := by decide +kernel
theorem dX9_weeks_34 : decode mX9_weeks.2.1 34 = .ok (.invokevirtual 282, 3) := by decide +kernel
theorem dX9_weeks_37 : decode mX9_weeks.2.1 37 = .ok (.iload_n 2, 1) := by decide +kernel
theorem dX9_weeks_38 : decode mX9_weeks.2.1 38 = .ok (.aload_n 0, 1) := by decide +kernel
theorem dX9_weeks_39 : decode mX9_weeks.2.1 39 = .ok (.getfield 47, 3) := by decide +kernel
theorem dX9_weeks_42 : decode mX9_weeks.2.1 42 = .ok (.getfield 286, 3) := by decide +kernel
theorem dX9_weeks_45 : decode mX9_weeks.2.1 45 = .ok (.iadd, 1) := by decide +kernel
theorem dX9_weeks_46 : decode mX9_weeks.2.1 46 = .ok (.istore_n 2, 1) := by decide +kernel
theorem dX9_weeks_47 : decode mX9_weeks.2.1 47 = .ok (.iinc 3 1, 3) := by decide +kernel
theorem dX9_weeks_50 : decode mX9_weeks.2.1 50 = .ok (.goto (-23), 3) := by decide +kernel
theorem dX9_weeks_53 : decode mX9_weeks.2.1 53 = .ok (.iload_n 2, 1) := by decide +kernel
theorem dX9_weeks_54 : decode mX9_weeks.2.1 54 = .ok (.ireturn, 1) := by decide +kernel
abbrev mX9_chance : aM := (yX9_chance, cX9_chance, 5, (some .int))
theorem dX9_chance_0 : decode mX9_chance.2.1 0 = .ok (.iload_n 1, 1) := by decide +kernel
theorem dX9_chance_1 : decode mX9_chance.2.1 1 = .ok (.iconst 1, 1) := by decide +kernel
theorem dX9_chance_2 : decode mX9_chance.2.1 2 = .ok (.if_icmp .lt 11, 3) := by decide +kernel
theorem dX9_chance_5 : decode mX9_chance.2.1 5 = .ok (.aload_n 0, 1) := by decide +kernel
theorem dX9_chance_6 : decode mX9_chance.2.1 6 = .ok (.iload_n 1, 1) := by decide +kernel
theorem dX9_chance_7 : decode mX9_chance.2.1 7 = .ok (.invokevirtual 248, 3) := by decide +kernel
theorem dX9_chance_10 : decode mX9_chance.2.1 10 = .ok (.ifCond .ne 9, 3) := by decide +kernel
theorem dX9_chance_13 : decode mX9_chance.2.1 13 = .ok (.aload_n 0, 1) := by decide +kernel
theorem dX9_chance_14 : decode mX9_chance.2.1 14 = .ok (.iconst 2, 1) := by decide +kernel
theorem dX9_chance_15 : decode mX9_chance.2.1 15 = .ok (.invokevirtual 102, 3) := by decide +kernel
theorem dX9_chance_18 : decode mX9_chance.2.1 18 = .ok (.ireturn, 1) := by decide +kernel
theorem dX9_chance_19 : decode mX9_chance.2.1 19 = .ok (.aload_n 0, 1) := by decide +kernel
theorem dX9_chance_20 : decode mX9_chance.2.1 20 = .ok (.invokevirtual 279, 3) := by decide +kernel
theorem dX9_chance_23 : decode mX9_chance.2.1 23 = .ok (.iconst 0, 1) := by decide +kernel
theorem dX9_chance_24 : decode mX9_chance.2.1 24 = .ok (.istore_n 2, 1) := by decide +kernel
theorem dX9_chance_25 : decode mX9_chance.2.1 25 = .ok (.iconst 0, 1) := by decide +kernel
theorem dX9_chance_26 : decode mX9_chance.2.1 26 = .ok (.istore_n 3, 1) := by decide +kernel
theorem dX9_chance_27 : decode mX9_chance.2.1 27 = .ok (.iload_n 3, 1) := by decide +kernel
theorem dX9_chance_28 : decode mX9_chance.2.1 28 = .ok (.iload_n 1, 1) := by decide +kernel
theorem dX9_chance_29 : decode mX9_chance.2.1 29 = .ok (.if_icmp .ge 51, 3) := by decide +kernel
theorem dX9_chance_32 : decode mX9_chance.2.1 32 = .ok (.aload_n 0, 1) := by decide +kernel
theorem dX9_chance_33 : decode mX9_chance.2.1 33 = .ok (.bipush 100, 2) := by decide +kernel
theorem dX9_chance_35 : decode mX9_chance.2.1 35 = .ok (.invokevirtual 289, 3) := by decide +kernel
theorem dX9_chance_38 : decode mX9_chance.2.1 38 = .ok (.aload_n 0, 1) := by decide +kernel
theorem dX9_chance_39 : decode mX9_chance.2.1 39 = .ok (.getfield 22, 3) := by decide +kernel
theorem dX9_chance_42 : decode mX9_chance.2.1 42 = .ok (.getfield 292, 3) := by decide +kernel
theorem dX9_chance_45 : decode mX9_chance.2.1 45 = .ok (.if_icmp .ge 7, 3) := by decide +kernel
theorem dX9_chance_48 : decode mX9_chance.2.1 48 = .ok (.iconst 1, 1) := by decide +kernel
theorem dX9_chance_49 : decode mX9_chance.2.1 49 = .ok (.goto 4, 3) := by decide +kernel
theorem dX9_chance_52 : decode mX9_chance.2.1 52 = .ok (.iconst 0, 1) := by decide +kernel
theorem dX9_chance_53 : decode mX9_chance.2.1 53 = .ok (.istore 4, 2) := by decide +kernel
theorem dX9_chance_55 : decode mX9_chance.2.1 55 = .ok (.aload_n 0, 1) := by decide +kernel
theorem dX9_chance_56 : decode mX9_chance.2.1 56 = .ok (.iload 4, 2) := by decide +kernel
theorem dX9_chance_58 : decode mX9_chance.2.1 58 = .ok (.invokevirtual 282, 3) := by decide +kernel
theorem dX9_chance_61 : decode mX9_chance.2.1 61 = .ok (.iload_n 2, 1) := by decide +kernel
theorem dX9_chance_62 : decode mX9_chance.2.1 62 = .ok (.iload 4, 2) := by decide +kernel
theorem dX9_chance_64 : decode mX9_chance.2.1 64 = .ok (.ifCond .eq 7, 3) := by decide +kernel
theorem dX9_chance_67 : decode mX9_chance.2.1 67 = .ok (.iconst 1, 1) := by decide +kernel
theorem dX9_chance_68 : decode mX9_chance.2.1 68 = .ok (.goto 4, 3) := by decide +kernel
theorem dX9_chance_71 : decode mX9_chance.2.1 71 = .ok (.iconst 0, 1) := by decide +kernel
theorem dX9_chance_72 : decode mX9_chance.2.1 72 = .ok (.iadd, 1) := by decide +kernel
theorem dX9_chance_73 : decode mX9_chance.2.1 73 = .ok (.istore_n 2, 1) := by decide +kernel
theorem dX9_chance_74 : decode mX9_chance.2.1 74 = .ok (.iinc 3 1, 3) := by decide +kernel
theorem dX9_chance_77 : decode mX9_chance.2.1 77 = .ok (.goto (-50), 3) := by decide +kernel
theorem dX9_chance_80 : decode mX9_chance.2.1 80 = .ok (.iload_n 2, 1) := by decide +kernel
theorem dX9_chance_81 : decode mX9_chance.2.1 81 = .ok (.ireturn, 1) := by decide +kernel
abbrev mX9_sermon : aM := (yX9_sermon, cX9_sermon, 4, (some .int))
theorem dX9_sermon_0 : decode mX9_sermon.2.1 0 = .ok (.aload_n 0, 1) := by decide +kernel
theorem dX9_sermon_1 : decode mX9_sermon.2.1 1 = .ok (.iload_n 1, 1) := by decide +kernel
theorem dX9_sermon_2 : decode mX9_sermon.2.1 2 = .ok (.iload_n 2, 1) := by decide +kernel
theorem dX9_sermon_3 : decode mX9_sermon.2.1 3 = .ok (.invokevirtual 204, 3) := by decide +kernel
theorem dX9_sermon_6 : decode mX9_sermon.2.1 6 = .ok (.ifCond .eq 26, 3) := by decide +kernel
theorem dX9_sermon_9 : decode mX9_sermon.2.1 9 = .ok (.iload_n 3, 1) := by decide +kernel
theorem dX9_sermon_10 : decode mX9_sermon.2.1 10 = .ok (.iconst 1, 1) := by decide +kernel
theorem dX9_sermon_11 : decode mX9_sermon.2.1 11 = .ok (.if_icmp .lt 21, 3) := by decide +kernel
theorem dX9_sermon_14 : decode mX9_sermon.2.1 14 = .ok (.iload_n 3, 1) := by decide +kernel
theorem dX9_sermon_15 : decode mX9_sermon.2.1 15 = .ok (.bipush 40, 2) := by decide +kernel
theorem dX9_sermon_17 : decode mX9_sermon.2.1 17 = .ok (.if_icmp .gt 15, 3) := by decide +kernel
theorem dX9_sermon_20 : decode mX9_sermon.2.1 20 = .ok (.aload_n 0, 1) := by decide +kernel
theorem dX9_sermon_21 : decode mX9_sermon.2.1 21 = .ok (.getfield 35, 3) := by decide +kernel
theorem dX9_sermon_24 : decode mX9_sermon.2.1 24 = .ok (.getfield 192, 3) := by decide +kernel
theorem dX9_sermon_27 : decode mX9_sermon.2.1 27 = .ok (.iload_n 2, 1) := by decide +kernel
theorem dX9_sermon_28 : decode mX9_sermon.2.1 28 = .ok (.iaload, 1) := by decide +kernel
theorem dX9_sermon_29 : decode mX9_sermon.2.1 29 = .ok (.ifCond .ne 9, 3) := by decide +kernel
theorem dX9_sermon_32 : decode mX9_sermon.2.1 32 = .ok (.aload_n 0, 1) := by decide +kernel
theorem dX9_sermon_33 : decode mX9_sermon.2.1 33 = .ok (.iconst 3, 1) := by decide +kernel
theorem dX9_sermon_34 : decode mX9_sermon.2.1 34 = .ok (.invokevirtual 102, 3) := by decide +kernel
theorem dX9_sermon_37 : decode mX9_sermon.2.1 37 = .ok (.ireturn, 1) := by decide +kernel
theorem dX9_sermon_38 : decode mX9_sermon.2.1 38 = .ok (.aload_n 0, 1) := by decide +kernel
theorem dX9_sermon_39 : decode mX9_sermon.2.1 39 = .ok (.invokevirtual 279, 3) := by decide +kernel
theorem dX9_sermon_42 : decode mX9_sermon.2.1 42 = .ok (.aload_n 0, 1) := by decide +kernel
theorem dX9_sermon_43 : decode mX9_sermon.2.1 43 = .ok (.getfield 47, 3) := by decide +kernel
theorem dX9_sermon_46 : decode mX9_sermon.2.1 46 = .ok (.aload_n 0, 1) := by decide +kernel
theorem dX9_sermon_47 : decode mX9_sermon.2.1 47 = .ok (.getfield 35, 3) := by decide +kernel
theorem dX9_sermon_50 : decode mX9_sermon.2.1 50 = .ok (.iload_n 1, 1) := by decide +kernel
theorem dX9_sermon_51 : decode mX9_sermon.2.1 51 = .ok (.iload_n 2, 1) := by decide +kernel
theorem dX9_sermon_52 : decode mX9_sermon.2.1 52 = .ok (.iload_n 3, 1) := by decide +kernel
theorem dX9_sermon_53 : decode mX9_sermon.2.1 53 = .ok (.invokevirtual 295, 3) := by decide +kernel
theorem dX9_sermon_56 : decode mX9_sermon.2.1 56 = .ok (.aload_n 0, 1) := by decide +kernel
theorem dX9_sermon_57 : decode mX9_sermon.2.1 57 = .ok (.aload_n 0, 1) := by decide +kernel
theorem dX9_sermon_58 : decode mX9_sermon.2.1 58 = .ok (.getfield 35, 3) := by decide +kernel
theorem dX9_sermon_61 : decode mX9_sermon.2.1 61 = .ok (.getfield 147, 3) := by decide +kernel
theorem dX9_sermon_64 : decode mX9_sermon.2.1 64 = .ok (.invokevirtual 299, 3) := by decide +kernel
theorem dX9_sermon_67 : decode mX9_sermon.2.1 67 = .ok (.aload_n 0, 1) := by decide +kernel
theorem dX9_sermon_68 : decode mX9_sermon.2.1 68 = .ok (.getfield 47, 3) := by decide +kernel
theorem dX9_sermon_71 : decode mX9_sermon.2.1 71 = .ok (.getfield 286, 3) := by decide +kernel
theorem dX9_sermon_74 : decode mX9_sermon.2.1 74 = .ok (.ireturn, 1) := by decide +kernel
abbrev mX9_soil : aM := (yX9_soil, cX9_soil, 3, (some .int))
theorem dX9_soil_0 : decode mX9_soil.2.1 0 = .ok (.aload_n 0, 1) := by decide +kernel
theorem dX9_soil_1 : decode mX9_soil.2.1 1 = .ok (.getfield 22, 3) := by decide +kernel
theorem dX9_soil_4 : decode mX9_soil.2.1 4 = .ok (.iconst 1, 1) := by decide +kernel
theorem dX9_soil_5 : decode mX9_soil.2.1 5 = .ok (.iload_n 1, 1) := by decide +kernel
theorem dX9_soil_6 : decode mX9_soil.2.1 6 = .ok (.invokevirtual 182, 3) := by decide +kernel
theorem dX9_soil_9 : decode mX9_soil.2.1 9 = .ok (.ifCond .eq 28, 3) := by decide +kernel
theorem dX9_soil_12 : decode mX9_soil.2.1 12 = .ok (.iload_n 2, 1) := by decide +kernel
theorem dX9_soil_13 : decode mX9_soil.2.1 13 = .ok (.iconst 1, 1) := by decide +kernel
theorem dX9_soil_14 : decode mX9_soil.2.1 14 = .ok (.if_icmp .lt 23, 3) := by decide +kernel
theorem dX9_soil_17 : decode mX9_soil.2.1 17 = .ok (.iload_n 2, 1) := by decide +kernel
theorem dX9_soil_18 : decode mX9_soil.2.1 18 = .ok (.bipush 99, 2) := by decide +kernel
theorem dX9_soil_20 : decode mX9_soil.2.1 20 = .ok (.if_icmp .gt 17, 3) := by decide +kernel
theorem dX9_soil_23 : decode mX9_soil.2.1 23 = .ok (.aload_n 0, 1) := by decide +kernel
theorem dX9_soil_24 : decode mX9_soil.2.1 24 = .ok (.getfield 35, 3) := by decide +kernel
theorem dX9_soil_27 : decode mX9_soil.2.1 27 = .ok (.getfield 192, 3) := by decide +kernel
theorem dX9_soil_30 : decode mX9_soil.2.1 30 = .ok (.iload_n 1, 1) := by decide +kernel
theorem dX9_soil_31 : decode mX9_soil.2.1 31 = .ok (.iaload, 1) := by decide +kernel
theorem dX9_soil_32 : decode mX9_soil.2.1 32 = .ok (.bipush 99, 2) := by decide +kernel
theorem dX9_soil_34 : decode mX9_soil.2.1 34 = .ok (.if_icmp .lt 9, 3) := by decide +kernel
theorem dX9_soil_37 : decode mX9_soil.2.1 37 = .ok (.aload_n 0, 1) := by decide +kernel
theorem dX9_soil_38 : decode mX9_soil.2.1 38 = .ok (.iconst 3, 1) := by decide +kernel
theorem dX9_soil_39 : decode mX9_soil.2.1 39 = .ok (.invokevirtual 102, 3) := by decide +kernel
theorem dX9_soil_42 : decode mX9_soil.2.1 42 = .ok (.ireturn, 1) := by decide +kernel
theorem dX9_soil_43 : decode mX9_soil.2.1 43 = .ok (.aload_n 0, 1) := by decide +kernel
theorem dX9_soil_44 : decode mX9_soil.2.1 44 = .ok (.invokevirtual 279, 3) := by decide +kernel
theorem dX9_soil_47 : decode mX9_soil.2.1 47 = .ok (.aload_n 0, 1) := by decide +kernel
theorem dX9_soil_48 : decode mX9_soil.2.1 48 = .ok (.getfield 35, 3) := by decide +kernel
theorem dX9_soil_51 : decode mX9_soil.2.1 51 = .ok (.getfield 192, 3) := by decide +kernel
theorem dX9_soil_54 : decode mX9_soil.2.1 54 = .ok (.iload_n 1, 1) := by decide +kernel
theorem dX9_soil_55 : decode mX9_soil.2.1 55 = .ok (.bipush 99, 2) := by decide +kernel
theorem dX9_soil_57 : decode mX9_soil.2.1 57 = .ok (.aload_n 0, 1) := by decide +kernel
theorem dX9_soil_58 : decode mX9_soil.2.1 58 = .ok (.getfield 35, 3) := by decide +kernel
theorem dX9_soil_61 : decode mX9_soil.2.1 61 = .ok (.getfield 192, 3) := by decide +kernel
theorem dX9_soil_64 : decode mX9_soil.2.1 64 = .ok (.iload_n 1, 1) := by decide +kernel
theorem dX9_soil_65 : decode mX9_soil.2.1 65 = .ok (.iaload, 1) := by decide +kernel
theorem dX9_soil_66 : decode mX9_soil.2.1 66 = .ok (.iload_n 2, 1) := by decide +kernel
theorem dX9_soil_67 : decode mX9_soil.2.1 67 = .ok (.iadd, 1) := by decide +kernel
theorem dX9_soil_68 : decode mX9_soil.2.1 68 = .ok (.invokestatic 171, 3) := by decide +kernel
theorem dX9_soil_71 : decode mX9_soil.2.1 71 = .ok (.iastore, 1) := by decide +kernel
theorem dX9_soil_72 : decode mX9_soil.2.1 72 = .ok (.aload_n 0, 1) := by decide +kernel
theorem dX9_soil_73 : decode mX9_soil.2.1 73 = .ok (.getfield 35, 3) := by decide +kernel
theorem dX9_soil_76 : decode mX9_soil.2.1 76 = .ok (.getfield 192, 3) := by decide +kernel
theorem dX9_soil_79 : decode mX9_soil.2.1 79 = .ok (.iload_n 1, 1) := by decide +kernel
theorem dX9_soil_80 : decode mX9_soil.2.1 80 = .ok (.iaload, 1) := by decide +kernel
theorem dX9_soil_81 : decode mX9_soil.2.1 81 = .ok (.ireturn, 1) := by decide +kernel
abbrev mX9_mend : aM := (yX9_mend, cX9_mend, 2, (some .boolean))
theorem dX9_mend_0 : decode mX9_mend.2.1 0 = .ok (.aload_n 0, 1) := by decide +kernel
theorem dX9_mend_1 : decode mX9_mend.2.1 1 = .ok (.getfield 22, 3) := by decide +kernel
theorem dX9_mend_4 : decode mX9_mend.2.1 4 = .ok (.iconst 0, 1) := by decide +kernel
theorem dX9_mend_5 : decode mX9_mend.2.1 5 = .ok (.iload_n 1, 1) := by decide +kernel
theorem dX9_mend_6 : decode mX9_mend.2.1 6 = .ok (.invokevirtual 182, 3) := by decide +kernel
theorem dX9_mend_9 : decode mX9_mend.2.1 9 = .ok (.ifCond .eq 23, 3) := by decide +kernel
theorem dX9_mend_12 : decode mX9_mend.2.1 12 = .ok (.aload_n 0, 1) := by decide +kernel
theorem dX9_mend_13 : decode mX9_mend.2.1 13 = .ok (.getfield 35, 3) := by decide +kernel
theorem dX9_mend_16 : decode mX9_mend.2.1 16 = .ok (.getfield 179, 3) := by decide +kernel
theorem dX9_mend_19 : decode mX9_mend.2.1 19 = .ok (.iload_n 1, 1) := by decide +kernel
theorem dX9_mend_20 : decode mX9_mend.2.1 20 = .ok (.iaload, 1) := by decide +kernel
theorem dX9_mend_21 : decode mX9_mend.2.1 21 = .ok (.aload_n 0, 1) := by decide +kernel
theorem dX9_mend_22 : decode mX9_mend.2.1 22 = .ok (.getfield 22, 3) := by decide +kernel
theorem dX9_mend_25 : decode mX9_mend.2.1 25 = .ok (.iload_n 1, 1) := by decide +kernel
theorem dX9_mend_26 : decode mX9_mend.2.1 26 = .ok (.invokevirtual 302, 3) := by decide +kernel
theorem dX9_mend_29 : decode mX9_mend.2.1 29 = .ok (.if_icmp .ne 9, 3) := by decide +kernel
theorem dX9_mend_32 : decode mX9_mend.2.1 32 = .ok (.aload_n 0, 1) := by decide +kernel
theorem dX9_mend_33 : decode mX9_mend.2.1 33 = .ok (.iconst 3, 1) := by decide +kernel
theorem dX9_mend_34 : decode mX9_mend.2.1 34 = .ok (.invokevirtual 109, 3) := by decide +kernel
theorem dX9_mend_37 : decode mX9_mend.2.1 37 = .ok (.ireturn, 1) := by decide +kernel
theorem dX9_mend_38 : decode mX9_mend.2.1 38 = .ok (.aload_n 0, 1) := by decide +kernel
theorem dX9_mend_39 : decode mX9_mend.2.1 39 = .ok (.invokevirtual 279, 3) := by decide +kernel
theorem dX9_mend_42 : decode mX9_mend.2.1 42 = .ok (.aload_n 0, 1) := by decide +kernel
theorem dX9_mend_43 : decode mX9_mend.2.1 43 = .ok (.getfield 35, 3) := by decide +kernel
theorem dX9_mend_46 : decode mX9_mend.2.1 46 = .ok (.getfield 179, 3) := by decide +kernel
theorem dX9_mend_49 : decode mX9_mend.2.1 49 = .ok (.iload_n 1, 1) := by decide +kernel
theorem dX9_mend_50 : decode mX9_mend.2.1 50 = .ok (.aload_n 0, 1) := by decide +kernel
theorem dX9_mend_51 : decode mX9_mend.2.1 51 = .ok (.getfield 22, 3) := by decide +kernel
theorem dX9_mend_54 : decode mX9_mend.2.1 54 = .ok (.iload_n 1, 1) := by decide +kernel
theorem dX9_mend_55 : decode mX9_mend.2.1 55 = .ok (.invokevirtual 302, 3) := by decide +kernel
theorem dX9_mend_58 : decode mX9_mend.2.1 58 = .ok (.iastore, 1) := by decide +kernel
theorem dX9_mend_59 : decode mX9_mend.2.1 59 = .ok (.iconst 1, 1) := by decide +kernel
theorem dX9_mend_60 : decode mX9_mend.2.1 60 = .ok (.ireturn, 1) := by decide +kernel
abbrev mX9_pour : aM := (yX9_pour, cX9_pour, 2, (some .boolean))
theorem dX9_pour_0 : decode mX9_pour.2.1 0 = .ok (.iload_n 1, 1) := by decide +kernel
theorem dX9_pour_1 : decode mX9_pour.2.1 1 = .ok (.ifCond .lt 20, 3) := by decide +kernel
theorem dX9_pour_4 : decode mX9_pour.2.1 4 = .ok (.iload_n 1, 1) := by decide +kernel
theorem dX9_pour_5 : decode mX9_pour.2.1 5 = .ok (.bipush 99, 2) := by decide +kernel
theorem dX9_pour_7 : decode mX9_pour.2.1 7 = .ok (.if_icmp .gt 14, 3) := by decide +kernel
theorem dX9_pour_10 : decode mX9_pour.2.1 10 = .ok (.iload_n 1, 1) := by decide +kernel
theorem dX9_pour_11 : decode mX9_pour.2.1 11 = .ok (.aload_n 0, 1) := by decide +kernel
theorem dX9_pour_12 : decode mX9_pour.2.1 12 = .ok (.getfield 35, 3) := by decide +kernel
theorem dX9_pour_15 : decode mX9_pour.2.1 15 = .ok (.getfield 150, 3) := by decide +kernel
theorem dX9_pour_18 : decode mX9_pour.2.1 18 = .ok (.if_icmp .ne 9, 3) := by decide +kernel
theorem dX9_pour_21 : decode mX9_pour.2.1 21 = .ok (.aload_n 0, 1) := by decide +kernel
theorem dX9_pour_22 : decode mX9_pour.2.1 22 = .ok (.iconst 3, 1) := by decide +kernel
theorem dX9_pour_23 : decode mX9_pour.2.1 23 = .ok (.invokevirtual 109, 3) := by decide +kernel
theorem dX9_pour_26 : decode mX9_pour.2.1 26 = .ok (.ireturn, 1) := by decide +kernel
theorem dX9_pour_27 : decode mX9_pour.2.1 27 = .ok (.aload_n 0, 1) := by decide +kernel
theorem dX9_pour_28 : decode mX9_pour.2.1 28 = .ok (.invokevirtual 279, 3) := by decide +kernel
theorem dX9_pour_31 : decode mX9_pour.2.1 31 = .ok (.aload_n 0, 1) := by decide +kernel
theorem dX9_pour_32 : decode mX9_pour.2.1 32 = .ok (.getfield 35, 3) := by decide +kernel
theorem dX9_pour_35 : decode mX9_pour.2.1 35 = .ok (.iload_n 1, 1) := by decide +kernel
theorem dX9_pour_36 : decode mX9_pour.2.1 36 = .ok (.putfield 150, 3) := by decide +kernel
theorem dX9_pour_39 : decode mX9_pour.2.1 39 = .ok (.iconst 1, 1) := by decide +kernel
theorem dX9_pour_40 : decode mX9_pour.2.1 40 = .ok (.ireturn, 1) := by decide +kernel
abbrev mX9_undo : aM := (yX9_undo, cX9_undo, 1, (some .boolean))
theorem dX9_undo_0 : decode mX9_undo.2.1 0 = .ok (.aload_n 0, 1) := by decide +kernel
theorem dX9_undo_1 : decode mX9_undo.2.1 1 = .ok (.getfield 54, 3) := by decide +kernel
theorem dX9_undo_4 : decode mX9_undo.2.1 4 = .ok (.aload_n 0, 1) := by decide +kernel
theorem dX9_undo_5 : decode mX9_undo.2.1 5 = .ok (.getfield 35, 3) := by decide +kernel
theorem dX9_undo_8 : decode mX9_undo.2.1 8 = .ok (.invokevirtual 305, 3) := by decide +kernel
theorem dX9_undo_11 : decode mX9_undo.2.1 11 = .ok (.ifCond .ne 9, 3) := by decide +kernel
theorem dX9_undo_14 : decode mX9_undo.2.1 14 = .ok (.aload_n 0, 1) := by decide +kernel
theorem dX9_undo_15 : decode mX9_undo.2.1 15 = .ok (.iconst 4, 1) := by decide +kernel
theorem dX9_undo_16 : decode mX9_undo.2.1 16 = .ok (.invokevirtual 109, 3) := by decide +kernel
theorem dX9_undo_19 : decode mX9_undo.2.1 19 = .ok (.ireturn, 1) := by decide +kernel
theorem dX9_undo_20 : decode mX9_undo.2.1 20 = .ok (.aload_n 0, 1) := by decide +kernel
theorem dX9_undo_21 : decode mX9_undo.2.1 21 = .ok (.invokevirtual 138, 3) := by decide +kernel
theorem dX9_undo_24 : decode mX9_undo.2.1 24 = .ok (.iconst 1, 1) := by decide +kernel
theorem dX9_undo_25 : decode mX9_undo.2.1 25 = .ok (.ireturn, 1) := by decide +kernel
abbrev mX9_seed : aM := (yX9_seed, cX9_seed, 2, (some .boolean))
theorem dX9_seed_0 : decode mX9_seed.2.1 0 = .ok (.iload_n 1, 1) := by decide +kernel
theorem dX9_seed_1 : decode mX9_seed.2.1 1 = .ok (.ifCond .ge 9, 3) := by decide +kernel
theorem dX9_seed_4 : decode mX9_seed.2.1 4 = .ok (.aload_n 0, 1) := by decide +kernel
theorem dX9_seed_5 : decode mX9_seed.2.1 5 = .ok (.iconst 5, 1) := by decide +kernel
theorem dX9_seed_6 : decode mX9_seed.2.1 6 = .ok (.invokevirtual 109, 3) := by decide +kernel
theorem dX9_seed_9 : decode mX9_seed.2.1 9 = .ok (.ireturn, 1) := by decide +kernel
theorem dX9_seed_10 : decode mX9_seed.2.1 10 = .ok (.aload_n 0, 1) := by decide +kernel
theorem dX9_seed_11 : decode mX9_seed.2.1 11 = .ok (.iload_n 1, 1) := by decide +kernel
theorem dX9_seed_12 : decode mX9_seed.2.1 12 = .ok (.i2l, 1) := by decide +kernel
theorem dX9_seed_13 : decode mX9_seed.2.1 13 = .ok (.putfield 88, 3) := by decide +kernel
theorem dX9_seed_16 : decode mX9_seed.2.1 16 = .ok (.iconst 1, 1) := by decide +kernel
theorem dX9_seed_17 : decode mX9_seed.2.1 17 = .ok (.ireturn, 1) := by decide +kernel
abbrev mX9_kept : aM := (yX9_kept, cX9_kept, 4, (some .int))
theorem dX9_kept_0 : decode mX9_kept.2.1 0 = .ok (.bipush 40, 2) := by decide +kernel
theorem dX9_kept_2 : decode mX9_kept.2.1 2 = .ok (.aload_n 0, 1) := by decide +kernel
theorem dX9_kept_3 : decode mX9_kept.2.1 3 = .ok (.getfield 35, 3) := by decide +kernel
theorem dX9_kept_6 : decode mX9_kept.2.1 6 = .ok (.getfield 168, 3) := by decide +kernel
theorem dX9_kept_9 : decode mX9_kept.2.1 9 = .ok (.invokestatic 171, 3) := by decide +kernel
theorem dX9_kept_12 : decode mX9_kept.2.1 12 = .ok (.istore_n 3, 1) := by decide +kernel
theorem dX9_kept_13 : decode mX9_kept.2.1 13 = .ok (.iload_n 1, 1) := by decide +kernel
theorem dX9_kept_14 : decode mX9_kept.2.1 14 = .ok (.ifCond .lt 17, 3) := by decide +kernel
theorem dX9_kept_17 : decode mX9_kept.2.1 17 = .ok (.iload_n 1, 1) := by decide +kernel
theorem dX9_kept_18 : decode mX9_kept.2.1 18 = .ok (.iload_n 3, 1) := by decide +kernel
theorem dX9_kept_19 : decode mX9_kept.2.1 19 = .ok (.if_icmp .ge 12, 3) := by decide +kernel
theorem dX9_kept_22 : decode mX9_kept.2.1 22 = .ok (.iload_n 2, 1) := by decide +kernel
theorem dX9_kept_23 : decode mX9_kept.2.1 23 = .ok (.ifCond .lt 8, 3) := by decide +kernel
theorem dX9_kept_26 : decode mX9_kept.2.1 26 = .ok (.iload_n 2, 1) := by decide +kernel
theorem dX9_kept_27 : decode mX9_kept.2.1 27 = .ok (.iconst 3, 1) := by decide +kernel
theorem dX9_kept_28 : decode mX9_kept.2.1 28 = .ok (.if_icmp .le 5, 3) := by decide +kernel
theorem dX9_kept_31 : decode mX9_kept.2.1 31 = .ok (.iconst (-1), 1) := by decide +kernel
theorem dX9_kept_32 : decode mX9_kept.2.1 32 = .ok (.ireturn, 1) := by decide +kernel
theorem dX9_kept_33 : decode mX9_kept.2.1 33 = .ok (.aload_n 0, 1) := by decide +kernel
theorem dX9_kept_34 : decode mX9_kept.2.1 34 = .ok (.getfield 61, 3) := by decide +kernel
theorem dX9_kept_37 : decode mX9_kept.2.1 37 = .ok (.aload_n 0, 1) := by decide +kernel
theorem dX9_kept_38 : decode mX9_kept.2.1 38 = .ok (.getfield 35, 3) := by decide +kernel
theorem dX9_kept_41 : decode mX9_kept.2.1 41 = .ok (.getfield 168, 3) := by decide +kernel
theorem dX9_kept_44 : decode mX9_kept.2.1 44 = .ok (.iload_n 3, 1) := by decide +kernel
theorem dX9_kept_45 : decode mX9_kept.2.1 45 = .ok (.isub, 1) := by decide +kernel
theorem dX9_kept_46 : decode mX9_kept.2.1 46 = .ok (.iload_n 1, 1) := by decide +kernel
theorem dX9_kept_47 : decode mX9_kept.2.1 47 = .ok (.iadd, 1) := by decide +kernel
theorem dX9_kept_48 : decode mX9_kept.2.1 48 = .ok (.iload_n 2, 1) := by decide +kernel
theorem dX9_kept_49 : decode mX9_kept.2.1 49 = .ok (.invokevirtual 309, 3) := by decide +kernel
theorem dX9_kept_52 : decode mX9_kept.2.1 52 = .ok (.ireturn, 1) := by decide +kernel
abbrev mX9_beginAct : aM := (yX9_beginAct, cX9_beginAct, 1, none)
theorem dX9_beginAct_0 : decode mX9_beginAct.2.1 0 = .ok (.aload_n 0, 1) := by decide +kernel
theorem dX9_beginAct_1 : decode mX9_beginAct.2.1 1 = .ok (.getfield 54, 3) := by decide +kernel
theorem dX9_beginAct_4 : decode mX9_beginAct.2.1 4 = .ok (.aload_n 0, 1) := by decide +kernel
theorem dX9_beginAct_5 : decode mX9_beginAct.2.1 5 = .ok (.getfield 35, 3) := by decide +kernel
theorem dX9_beginAct_8 : decode mX9_beginAct.2.1 8 = .ok (.invokevirtual 311, 3) := by decide +kernel
theorem dX9_beginAct_11 : decode mX9_beginAct.2.1 11 = .ok (.aload_n 0, 1) := by decide +kernel
theorem dX9_beginAct_12 : decode mX9_beginAct.2.1 12 = .ok (.invokevirtual 138, 3) := by decide +kernel
theorem dX9_beginAct_15 : decode mX9_beginAct.2.1 15 = .ok (.return_, 1) := by decide +kernel
abbrev mX9_forgetAnswers : aM := (yX9_forgetAnswers, cX9_forgetAnswers, 1, none)
theorem dX9_forgetAnswers_0 : decode mX9_forgetAnswers.2.1 0 = .ok (.aload_n 0, 1) := by decide +kernel
theorem dX9_forgetAnswers_1 : decode mX9_forgetAnswers.2.1 1 = .ok (.getfield 77, 3) := by decide +kernel
theorem dX9_forgetAnswers_4 : decode mX9_forgetAnswers.2.1 4 = .ok (.iconst 0, 1) := by decide +kernel
theorem dX9_forgetAnswers_5 : decode mX9_forgetAnswers.2.1 5 = .ok (.putfield 225, 3) := by decide +kernel
theorem dX9_forgetAnswers_8 : decode mX9_forgetAnswers.2.1 8 = .ok (.aload_n 0, 1) := by decide +kernel
theorem dX9_forgetAnswers_9 : decode mX9_forgetAnswers.2.1 9 = .ok (.getfield 84, 3) := by decide +kernel
theorem dX9_forgetAnswers_12 : decode mX9_forgetAnswers.2.1 12 = .ok (.iconst (-1), 1) := by decide +kernel
theorem dX9_forgetAnswers_13 : decode mX9_forgetAnswers.2.1 13 = .ok (.putfield 238, 3) := by decide +kernel
theorem dX9_forgetAnswers_16 : decode mX9_forgetAnswers.2.1 16 = .ok (.return_, 1) := by decide +kernel
abbrev mX9_keepWeek : aM := (yX9_keepWeek, cX9_keepWeek, 3, none)
theorem dX9_keepWeek_0 : decode mX9_keepWeek.2.1 0 = .ok (.aload_n 0, 1) := by decide +kernel
theorem dX9_keepWeek_1 : decode mX9_keepWeek.2.1 1 = .ok (.getfield 35, 3) := by decide +kernel
theorem dX9_keepWeek_4 : decode mX9_keepWeek.2.1 4 = .ok (.getfield 147, 3) := by decide +kernel
theorem dX9_keepWeek_7 : decode mX9_keepWeek.2.1 7 = .ok (.istore_n 2, 1) := by decide +kernel
theorem dX9_keepWeek_8 : decode mX9_keepWeek.2.1 8 = .ok (.aload_n 0, 1) := by decide +kernel
theorem dX9_keepWeek_9 : decode mX9_keepWeek.2.1 9 = .ok (.getfield 47, 3) := by decide +kernel
theorem dX9_keepWeek_12 : decode mX9_keepWeek.2.1 12 = .ok (.aload_n 0, 1) := by decide +kernel
theorem dX9_keepWeek_13 : decode mX9_keepWeek.2.1 13 = .ok (.getfield 35, 3) := by decide +kernel
theorem dX9_keepWeek_16 : decode mX9_keepWeek.2.1 16 = .ok (.iload_n 1, 1) := by decide +kernel
theorem dX9_keepWeek_17 : decode mX9_keepWeek.2.1 17 = .ok (.invokevirtual 258, 3) := by decide +kernel
theorem dX9_keepWeek_20 : decode mX9_keepWeek.2.1 20 = .ok (.aload_n 0, 1) := by decide +kernel
theorem dX9_keepWeek_21 : decode mX9_keepWeek.2.1 21 = .ok (.getfield 47, 3) := by decide +kernel
theorem dX9_keepWeek_24 : decode mX9_keepWeek.2.1 24 = .ok (.getfield 314, 3) := by decide +kernel
theorem dX9_keepWeek_27 : decode mX9_keepWeek.2.1 27 = .ok (.iconst (-1), 1) := by decide +kernel
theorem dX9_keepWeek_28 : decode mX9_keepWeek.2.1 28 = .ok (.if_icmp .eq 8, 3) := by decide +kernel
theorem dX9_keepWeek_31 : decode mX9_keepWeek.2.1 31 = .ok (.aload_n 0, 1) := by decide +kernel
theorem dX9_keepWeek_32 : decode mX9_keepWeek.2.1 32 = .ok (.iload_n 2, 1) := by decide +kernel
theorem dX9_keepWeek_33 : decode mX9_keepWeek.2.1 33 = .ok (.invokevirtual 299, 3) := by decide +kernel
theorem dX9_keepWeek_36 : decode mX9_keepWeek.2.1 36 = .ok (.return_, 1) := by decide +kernel
abbrev mX9_keep : aM := (yX9_keep, cX9_keep, 2, none)
theorem dX9_keep_0 : decode mX9_keep.2.1 0 = .ok (.aload_n 0, 1) := by decide +kernel
theorem dX9_keep_1 : decode mX9_keep.2.1 1 = .ok (.getfield 61, 3) := by decide +kernel
theorem dX9_keep_4 : decode mX9_keep.2.1 4 = .ok (.aload_n 0, 1) := by decide +kernel
theorem dX9_keep_5 : decode mX9_keep.2.1 5 = .ok (.getfield 35, 3) := by decide +kernel
theorem dX9_keep_8 : decode mX9_keep.2.1 8 = .ok (.getfield 168, 3) := by decide +kernel
theorem dX9_keep_11 : decode mX9_keep.2.1 11 = .ok (.iload_n 1, 1) := by decide +kernel
theorem dX9_keep_12 : decode mX9_keep.2.1 12 = .ok (.aload_n 0, 1) := by decide +kernel
theorem dX9_keep_13 : decode mX9_keep.2.1 13 = .ok (.getfield 47, 3) := by decide +kernel
theorem dX9_keep_16 : decode mX9_keep.2.1 16 = .ok (.invokevirtual 315, 3) := by decide +kernel
theorem dX9_keep_19 : decode mX9_keep.2.1 19 = .ok (.aload_n 0, 1) := by decide +kernel
theorem dX9_keep_20 : decode mX9_keep.2.1 20 = .ok (.getfield 35, 3) := by decide +kernel
theorem dX9_keep_23 : decode mX9_keep.2.1 23 = .ok (.dup, 1) := by decide +kernel
theorem dX9_keep_24 : decode mX9_keep.2.1 24 = .ok (.getfield 168, 3) := by decide +kernel
theorem dX9_keep_27 : decode mX9_keep.2.1 27 = .ok (.iconst 1, 1) := by decide +kernel
theorem dX9_keep_28 : decode mX9_keep.2.1 28 = .ok (.iadd, 1) := by decide +kernel
theorem dX9_keep_29 : decode mX9_keep.2.1 29 = .ok (.putfield 168, 3) := by decide +kernel
theorem dX9_keep_32 : decode mX9_keep.2.1 32 = .ok (.return_, 1) := by decide +kernel
abbrev mX9_draw : aM := (yX9_draw, cX9_draw, 2, (some .int))
theorem dX9_draw_0 : decode mX9_draw.2.1 0 = .ok (.aload_n 0, 1) := by decide +kernel
theorem dX9_draw_1 : decode mX9_draw.2.1 1 = .ok (.ldc2_w 319, 3) := by decide +kernel
theorem dX9_draw_4 : decode mX9_draw.2.1 4 = .ok (.aload_n 0, 1) := by decide +kernel
theorem dX9_draw_5 : decode mX9_draw.2.1 5 = .ok (.getfield 88, 3) := by decide +kernel
theorem dX9_draw_8 : decode mX9_draw.2.1 8 = .ok (.lmul, 1) := by decide +kernel
theorem dX9_draw_9 : decode mX9_draw.2.1 9 = .ok (.ldc2_w 321, 3) := by decide +kernel
theorem dX9_draw_12 : decode mX9_draw.2.1 12 = .ok (.ladd, 1) := by decide +kernel
theorem dX9_draw_13 : decode mX9_draw.2.1 13 = .ok (.ldc2_w 323, 3) := by decide +kernel
theorem dX9_draw_16 : decode mX9_draw.2.1 16 = .ok (.land, 1) := by decide +kernel
theorem dX9_draw_17 : decode mX9_draw.2.1 17 = .ok (.putfield 88, 3) := by decide +kernel
theorem dX9_draw_20 : decode mX9_draw.2.1 20 = .ok (.iload_n 1, 1) := by decide +kernel
theorem dX9_draw_21 : decode mX9_draw.2.1 21 = .ok (.ifCond .le 18, 3) := by decide +kernel
theorem dX9_draw_24 : decode mX9_draw.2.1 24 = .ok (.aload_n 0, 1) := by decide +kernel
theorem dX9_draw_25 : decode mX9_draw.2.1 25 = .ok (.getfield 88, 3) := by decide +kernel
theorem dX9_draw_28 : decode mX9_draw.2.1 28 = .ok (.ldc2_w 325, 3) := by decide +kernel
theorem dX9_draw_31 : decode mX9_draw.2.1 31 = .ok (.ldiv, 1) := by decide +kernel
theorem dX9_draw_32 : decode mX9_draw.2.1 32 = .ok (.iload_n 1, 1) := by decide +kernel
theorem dX9_draw_33 : decode mX9_draw.2.1 33 = .ok (.i2l, 1) := by decide +kernel
theorem dX9_draw_34 : decode mX9_draw.2.1 34 = .ok (.lrem, 1) := by decide +kernel
theorem dX9_draw_35 : decode mX9_draw.2.1 35 = .ok (.l2i, 1) := by decide +kernel
theorem dX9_draw_36 : decode mX9_draw.2.1 36 = .ok (.goto 4, 3) := by decide +kernel
theorem dX9_draw_39 : decode mX9_draw.2.1 39 = .ok (.iconst 0, 1) := by decide +kernel
theorem dX9_draw_40 : decode mX9_draw.2.1 40 = .ok (.ireturn, 1) := by decide +kernel
abbrev mX9_image : aM := (yX9_image, cX9_image, 4, (some .int))
theorem dX9_image_0 : decode mX9_image.2.1 0 = .ok (.aload_n 0, 1) := by decide +kernel
theorem dX9_image_1 : decode mX9_image.2.1 1 = .ok (.getfield 92, 3) := by decide +kernel
theorem dX9_image_4 : decode mX9_image.2.1 4 = .ok (.iconst 0, 1) := by decide +kernel
theorem dX9_image_5 : decode mX9_image.2.1 5 = .ok (.aload_n 0, 1) := by decide +kernel
theorem dX9_image_6 : decode mX9_image.2.1 6 = .ok (.getfield 35, 3) := by decide +kernel
theorem dX9_image_9 : decode mX9_image.2.1 9 = .ok (.getfield 147, 3) := by decide +kernel
theorem dX9_image_12 : decode mX9_image.2.1 12 = .ok (.sipush 256, 3) := by decide +kernel
theorem dX9_image_15 : decode mX9_image.2.1 15 = .ok (.idiv, 1) := by decide +kernel
theorem dX9_image_16 : decode mX9_image.2.1 16 = .ok (.iastore, 1) := by decide +kernel
theorem dX9_image_17 : decode mX9_image.2.1 17 = .ok (.aload_n 0, 1) := by decide +kernel
theorem dX9_image_18 : decode mX9_image.2.1 18 = .ok (.getfield 92, 3) := by decide +kernel
theorem dX9_image_21 : decode mX9_image.2.1 21 = .ok (.iconst 1, 1) := by decide +kernel
theorem dX9_image_22 : decode mX9_image.2.1 22 = .ok (.aload_n 0, 1) := by decide +kernel
theorem dX9_image_23 : decode mX9_image.2.1 23 = .ok (.getfield 35, 3) := by decide +kernel
theorem dX9_image_26 : decode mX9_image.2.1 26 = .ok (.getfield 147, 3) := by decide +kernel
theorem dX9_image_29 : decode mX9_image.2.1 29 = .ok (.sipush 256, 3) := by decide +kernel
theorem dX9_image_32 : decode mX9_image.2.1 32 = .ok (.irem, 1) := by decide +kernel
theorem dX9_image_33 : decode mX9_image.2.1 33 = .ok (.iastore, 1) := by decide +kernel
theorem dX9_image_34 : decode mX9_image.2.1 34 = .ok (.aload_n 0, 1) := by decide +kernel
theorem dX9_image_35 : decode mX9_image.2.1 35 = .ok (.getfield 92, 3) := by decide +kernel
theorem dX9_image_38 : decode mX9_image.2.1 38 = .ok (.iconst 2, 1) := by decide +kernel
theorem dX9_image_39 : decode mX9_image.2.1 39 = .ok (.aload_n 0, 1) := by decide +kernel
theorem dX9_image_40 : decode mX9_image.2.1 40 = .ok (.getfield 35, 3) := by decide +kernel
theorem dX9_image_43 : decode mX9_image.2.1 43 = .ok (.getfield 150, 3) := by decide +kernel
theorem dX9_image_46 : decode mX9_image.2.1 46 = .ok (.iastore, 1) := by decide +kernel
theorem dX9_image_47 : decode mX9_image.2.1 47 = .ok (.iconst 3, 1) := by decide +kernel
theorem dX9_image_48 : decode mX9_image.2.1 48 = .ok (.istore_n 1, 1) := by decide +kernel
theorem dX9_image_49 : decode mX9_image.2.1 49 = .ok (.iconst 0, 1) := by decide +kernel
theorem dX9_image_50 : decode mX9_image.2.1 50 = .ok (.istore_n 2, 1) := by decide +kernel
theorem dX9_image_51 : decode mX9_image.2.1 51 = .ok (.iload_n 2, 1) := by decide +kernel
theorem dX9_image_52 : decode mX9_image.2.1 52 = .ok (.aload_n 0, 1) := by decide +kernel
theorem dX9_image_53 : decode mX9_image.2.1 53 = .ok (.getfield 22, 3) := by decide +kernel
theorem dX9_image_56 : decode mX9_image.2.1 56 = .ok (.getfield 144, 3) := by decide +kernel
theorem dX9_image_59 : decode mX9_image.2.1 59 = .ok (.iconst 0, 1) := by decide +kernel
theorem dX9_image_60 : decode mX9_image.2.1 60 = .ok (.iaload, 1) := by decide +kernel
theorem dX9_image_61 : decode mX9_image.2.1 61 = .ok (.if_icmp .ge 27, 3) := by decide +kernel
theorem dX9_image_64 : decode mX9_image.2.1 64 = .ok (.aload_n 0, 1) := by decide +kernel
theorem dX9_image_65 : decode mX9_image.2.1 65 = .ok (.getfield 92, 3) := by decide +kernel
theorem dX9_image_68 : decode mX9_image.2.1 68 = .ok (.iload_n 1, 1) := by decide +kernel
theorem dX9_image_69 : decode mX9_image.2.1 69 = .ok (.iinc 1 1, 3) := by decide +kernel
theorem dX9_image_72 : decode mX9_image.2.1 72 = .ok (.aload_n 0, 1) := by decide +kernel
theorem dX9_image_73 : decode mX9_image.2.1 73 = .ok (.getfield 35, 3) := by decide +kernel
theorem dX9_image_76 : decode mX9_image.2.1 76 = .ok (.getfield 179, 3) := by decide +kernel
theorem dX9_image_79 : decode mX9_image.2.1 79 = .ok (.iload_n 2, 1) := by decide +kernel
theorem dX9_image_80 : decode mX9_image.2.1 80 = .ok (.iaload, 1) := by decide +kernel
theorem dX9_image_81 : decode mX9_image.2.1 81 = .ok (.iastore, 1) := by decide +kernel
theorem dX9_image_82 : decode mX9_image.2.1 82 = .ok (.iinc 2 1, 3) := by decide +kernel
theorem dX9_image_85 : decode mX9_image.2.1 85 = .ok (.goto (-34), 3) := by decide +kernel
theorem dX9_image_88 : decode mX9_image.2.1 88 = .ok (.iconst 0, 1) := by decide +kernel
theorem dX9_image_89 : decode mX9_image.2.1 89 = .ok (.istore_n 2, 1) := by decide +kernel
theorem dX9_image_90 : decode mX9_image.2.1 90 = .ok (.iload_n 2, 1) := by decide +kernel
theorem dX9_image_91 : decode mX9_image.2.1 91 = .ok (.aload_n 0, 1) := by decide +kernel
theorem dX9_image_92 : decode mX9_image.2.1 92 = .ok (.getfield 22, 3) := by decide +kernel
theorem dX9_image_95 : decode mX9_image.2.1 95 = .ok (.getfield 144, 3) := by decide +kernel
theorem dX9_image_98 : decode mX9_image.2.1 98 = .ok (.iconst 1, 1) := by decide +kernel
theorem dX9_image_99 : decode mX9_image.2.1 99 = .ok (.iaload, 1) := by decide +kernel
theorem dX9_image_100 : decode mX9_image.2.1 100 = .ok (.if_icmp .ge 27, 3) := by decide +kernel
theorem dX9_image_103 : decode mX9_image.2.1 103 = .ok (.aload_n 0, 1) := by decide +kernel
theorem dX9_image_104 : decode mX9_image.2.1 104 = .ok (.getfield 92, 3) := by decide +kernel
theorem dX9_image_107 : decode mX9_image.2.1 107 = .ok (.iload_n 1, 1) := by decide +kernel
theorem dX9_image_108 : decode mX9_image.2.1 108 = .ok (.iinc 1 1, 3) := by decide +kernel
theorem dX9_image_111 : decode mX9_image.2.1 111 = .ok (.aload_n 0, 1) := by decide +kernel
theorem dX9_image_112 : decode mX9_image.2.1 112 = .ok (.getfield 35, 3) := by decide +kernel
theorem dX9_image_115 : decode mX9_image.2.1 115 = .ok (.getfield 192, 3) := by decide +kernel
theorem dX9_image_118 : decode mX9_image.2.1 118 = .ok (.iload_n 2, 1) := by decide +kernel
theorem dX9_image_119 : decode mX9_image.2.1 119 = .ok (.iaload, 1) := by decide +kernel
theorem dX9_image_120 : decode mX9_image.2.1 120 = .ok (.iastore, 1) := by decide +kernel
theorem dX9_image_121 : decode mX9_image.2.1 121 = .ok (.iinc 2 1, 3) := by decide +kernel
theorem dX9_image_124 : decode mX9_image.2.1 124 = .ok (.goto (-34), 3) := by decide +kernel
theorem dX9_image_127 : decode mX9_image.2.1 127 = .ok (.iconst 0, 1) := by decide +kernel
theorem dX9_image_128 : decode mX9_image.2.1 128 = .ok (.istore_n 2, 1) := by decide +kernel
theorem dX9_image_129 : decode mX9_image.2.1 129 = .ok (.iload_n 2, 1) := by decide +kernel
theorem dX9_image_130 : decode mX9_image.2.1 130 = .ok (.aload_n 0, 1) := by decide +kernel
theorem dX9_image_131 : decode mX9_image.2.1 131 = .ok (.getfield 22, 3) := by decide +kernel
theorem dX9_image_134 : decode mX9_image.2.1 134 = .ok (.getfield 144, 3) := by decide +kernel
theorem dX9_image_137 : decode mX9_image.2.1 137 = .ok (.iconst 2, 1) := by decide +kernel
theorem dX9_image_138 : decode mX9_image.2.1 138 = .ok (.iaload, 1) := by decide +kernel
theorem dX9_image_139 : decode mX9_image.2.1 139 = .ok (.if_icmp .ge 29, 3) := by decide +kernel
theorem dX9_image_142 : decode mX9_image.2.1 142 = .ok (.aload_n 0, 1) := by decide +kernel
theorem dX9_image_143 : decode mX9_image.2.1 143 = .ok (.getfield 92, 3) := by decide +kernel
theorem dX9_image_146 : decode mX9_image.2.1 146 = .ok (.iload_n 1, 1) := by decide +kernel
theorem dX9_image_147 : decode mX9_image.2.1 147 = .ok (.iinc 1 1, 3) := by decide +kernel
theorem dX9_image_150 : decode mX9_image.2.1 150 = .ok (.aload_n 0, 1) := by decide +kernel
theorem dX9_image_151 : decode mX9_image.2.1 151 = .ok (.getfield 35, 3) := by decide +kernel
theorem dX9_image_154 : decode mX9_image.2.1 154 = .ok (.getfield 160, 3) := by decide +kernel
theorem dX9_image_157 : decode mX9_image.2.1 157 = .ok (.iload_n 2, 1) := by decide +kernel
theorem dX9_image_158 : decode mX9_image.2.1 158 = .ok (.ishr, 1) := by decide +kernel
theorem dX9_image_159 : decode mX9_image.2.1 159 = .ok (.iconst 1, 1) := by decide +kernel
theorem dX9_image_160 : decode mX9_image.2.1 160 = .ok (.iand, 1) := by decide +kernel
theorem dX9_image_161 : decode mX9_image.2.1 161 = .ok (.iastore, 1) := by decide +kernel
theorem dX9_image_162 : decode mX9_image.2.1 162 = .ok (.iinc 2 1, 3) := by decide +kernel
theorem dX9_image_165 : decode mX9_image.2.1 165 = .ok (.goto (-36), 3) := by decide +kernel
theorem dX9_image_168 : decode mX9_image.2.1 168 = .ok (.sipush 211, 3) := by decide +kernel
theorem dX9_image_171 : decode mX9_image.2.1 171 = .ok (.istore_n 2, 1) := by decide +kernel
theorem dX9_image_172 : decode mX9_image.2.1 172 = .ok (.iconst 0, 1) := by decide +kernel
theorem dX9_image_173 : decode mX9_image.2.1 173 = .ok (.istore_n 3, 1) := by decide +kernel
theorem dX9_image_174 : decode mX9_image.2.1 174 = .ok (.iload_n 3, 1) := by decide +kernel
theorem dX9_image_175 : decode mX9_image.2.1 175 = .ok (.iload_n 1, 1) := by decide +kernel
theorem dX9_image_176 : decode mX9_image.2.1 176 = .ok (.if_icmp .ge 24, 3) := by decide +kernel
theorem dX9_image_179 : decode mX9_image.2.1 179 = .ok (.iconst 5, 1) := by decide +kernel
theorem dX9_image_180 : decode mX9_image.2.1 180 = .ok (.iload_n 2, 1) := by decide +kernel
theorem dX9_image_181 : decode mX9_image.2.1 181 = .ok (.imul, 1) := by decide +kernel
theorem dX9_image_182 : decode mX9_image.2.1 182 = .ok (.aload_n 0, 1) := by decide +kernel
theorem dX9_image_183 : decode mX9_image.2.1 183 = .ok (.getfield 92, 3) := by decide +kernel
theorem dX9_image_186 : decode mX9_image.2.1 186 = .ok (.iload_n 3, 1) := by decide +kernel
theorem dX9_image_187 : decode mX9_image.2.1 187 = .ok (.iaload, 1) := by decide +kernel
theorem dX9_image_188 : decode mX9_image.2.1 188 = .ok (.iadd, 1) := by decide +kernel
theorem dX9_image_189 : decode mX9_image.2.1 189 = .ok (.sipush 251, 3) := by decide +kernel
theorem dX9_image_192 : decode mX9_image.2.1 192 = .ok (.irem, 1) := by decide +kernel
theorem dX9_image_193 : decode mX9_image.2.1 193 = .ok (.istore_n 2, 1) := by decide +kernel
theorem dX9_image_194 : decode mX9_image.2.1 194 = .ok (.iinc 3 1, 3) := by decide +kernel
theorem dX9_image_197 : decode mX9_image.2.1 197 = .ok (.goto (-23), 3) := by decide +kernel
theorem dX9_image_200 : decode mX9_image.2.1 200 = .ok (.aload_n 0, 1) := by decide +kernel
theorem dX9_image_201 : decode mX9_image.2.1 201 = .ok (.getfield 92, 3) := by decide +kernel
theorem dX9_image_204 : decode mX9_image.2.1 204 = .ok (.iload_n 1, 1) := by decide +kernel
theorem dX9_image_205 : decode mX9_image.2.1 205 = .ok (.iinc 1 1, 3) := by decide +kernel
theorem dX9_image_208 : decode mX9_image.2.1 208 = .ok (.iload_n 2, 1) := by decide +kernel
theorem dX9_image_209 : decode mX9_image.2.1 209 = .ok (.iastore, 1) := by decide +kernel
theorem dX9_image_210 : decode mX9_image.2.1 210 = .ok (.aload_n 0, 1) := by decide +kernel
theorem dX9_image_211 : decode mX9_image.2.1 211 = .ok (.iload_n 1, 1) := by decide +kernel
theorem dX9_image_212 : decode mX9_image.2.1 212 = .ok (.putfield 96, 3) := by decide +kernel
theorem dX9_image_215 : decode mX9_image.2.1 215 = .ok (.iload_n 1, 1) := by decide +kernel
theorem dX9_image_216 : decode mX9_image.2.1 216 = .ok (.ireturn, 1) := by decide +kernel
abbrev mX9_octet : aM := (yX9_octet, cX9_octet, 2, (some .int))
theorem dX9_octet_0 : decode mX9_octet.2.1 0 = .ok (.iload_n 1, 1) := by decide +kernel
theorem dX9_octet_1 : decode mX9_octet.2.1 1 = .ok (.ifCond .lt 20, 3) := by decide +kernel
theorem dX9_octet_4 : decode mX9_octet.2.1 4 = .ok (.iload_n 1, 1) := by decide +kernel
theorem dX9_octet_5 : decode mX9_octet.2.1 5 = .ok (.aload_n 0, 1) := by decide +kernel
theorem dX9_octet_6 : decode mX9_octet.2.1 6 = .ok (.getfield 96, 3) := by decide +kernel
theorem dX9_octet_9 : decode mX9_octet.2.1 9 = .ok (.if_icmp .ge 12, 3) := by decide +kernel
theorem dX9_octet_12 : decode mX9_octet.2.1 12 = .ok (.aload_n 0, 1) := by decide +kernel
theorem dX9_octet_13 : decode mX9_octet.2.1 13 = .ok (.getfield 92, 3) := by decide +kernel
theorem dX9_octet_16 : decode mX9_octet.2.1 16 = .ok (.iload_n 1, 1) := by decide +kernel
theorem dX9_octet_17 : decode mX9_octet.2.1 17 = .ok (.iaload, 1) := by decide +kernel
theorem dX9_octet_18 : decode mX9_octet.2.1 18 = .ok (.goto 4, 3) := by decide +kernel
theorem dX9_octet_21 : decode mX9_octet.2.1 21 = .ok (.iconst (-1), 1) := by decide +kernel
theorem dX9_octet_22 : decode mX9_octet.2.1 22 = .ok (.ireturn, 1) := by decide +kernel
abbrev mX9_on : aM := (yX9_on, cX9_on, 4, (some .boolean))
theorem dX9_on_0 : decode mX9_on.2.1 0 = .ok (.aload_n 0, 1) := by decide +kernel
theorem dX9_on_1 : decode mX9_on.2.1 1 = .ok (.getfield 13, 3) := by decide +kernel
theorem dX9_on_4 : decode mX9_on.2.1 4 = .ok (.istore_n 1, 1) := by decide +kernel
theorem dX9_on_5 : decode mX9_on.2.1 5 = .ok (.aload_n 0, 1) := by decide +kernel
theorem dX9_on_6 : decode mX9_on.2.1 6 = .ok (.iconst 0, 1) := by decide +kernel
theorem dX9_on_7 : decode mX9_on.2.1 7 = .ok (.putfield 13, 3) := by decide +kernel
theorem dX9_on_10 : decode mX9_on.2.1 10 = .ok (.aload_n 0, 1) := by decide +kernel
theorem dX9_on_11 : decode mX9_on.2.1 11 = .ok (.iload_n 1, 1) := by decide +kernel
theorem dX9_on_12 : decode mX9_on.2.1 12 = .ok (.invokevirtual 327, 3) := by decide +kernel
theorem dX9_on_15 : decode mX9_on.2.1 15 = .ok (.ifCond .ne 9, 3) := by decide +kernel
theorem dX9_on_18 : decode mX9_on.2.1 18 = .ok (.aload_n 0, 1) := by decide +kernel
theorem dX9_on_19 : decode mX9_on.2.1 19 = .ok (.iconst 5, 1) := by decide +kernel
theorem dX9_on_20 : decode mX9_on.2.1 20 = .ok (.invokevirtual 109, 3) := by decide +kernel
theorem dX9_on_23 : decode mX9_on.2.1 23 = .ok (.ireturn, 1) := by decide +kernel
theorem dX9_on_24 : decode mX9_on.2.1 24 = .ok (.aload_n 0, 1) := by decide +kernel
theorem dX9_on_25 : decode mX9_on.2.1 25 = .ok (.getfield 35, 3) := by decide +kernel
theorem dX9_on_28 : decode mX9_on.2.1 28 = .ok (.aload_n 0, 1) := by decide +kernel
theorem dX9_on_29 : decode mX9_on.2.1 29 = .ok (.getfield 22, 3) := by decide +kernel
theorem dX9_on_32 : decode mX9_on.2.1 32 = .ok (.invokevirtual 129, 3) := by decide +kernel
theorem dX9_on_35 : decode mX9_on.2.1 35 = .ok (.aload_n 0, 1) := by decide +kernel
theorem dX9_on_36 : decode mX9_on.2.1 36 = .ok (.getfield 35, 3) := by decide +kernel
theorem dX9_on_39 : decode mX9_on.2.1 39 = .ok (.aload_n 0, 1) := by decide +kernel
theorem dX9_on_40 : decode mX9_on.2.1 40 = .ok (.iconst 0, 1) := by decide +kernel
theorem dX9_on_41 : decode mX9_on.2.1 41 = .ok (.invokevirtual 330, 3) := by decide +kernel
theorem dX9_on_44 : decode mX9_on.2.1 44 = .ok (.sipush 256, 3) := by decide +kernel
theorem dX9_on_47 : decode mX9_on.2.1 47 = .ok (.imul, 1) := by decide +kernel
theorem dX9_on_48 : decode mX9_on.2.1 48 = .ok (.aload_n 0, 1) := by decide +kernel
theorem dX9_on_49 : decode mX9_on.2.1 49 = .ok (.iconst 1, 1) := by decide +kernel
theorem dX9_on_50 : decode mX9_on.2.1 50 = .ok (.invokevirtual 330, 3) := by decide +kernel
theorem dX9_on_53 : decode mX9_on.2.1 53 = .ok (.iadd, 1) := by decide +kernel
theorem dX9_on_54 : decode mX9_on.2.1 54 = .ok (.putfield 147, 3) := by decide +kernel
theorem dX9_on_57 : decode mX9_on.2.1 57 = .ok (.aload_n 0, 1) := by decide +kernel
theorem dX9_on_58 : decode mX9_on.2.1 58 = .ok (.getfield 35, 3) := by decide +kernel
theorem dX9_on_61 : decode mX9_on.2.1 61 = .ok (.aload_n 0, 1) := by decide +kernel
theorem dX9_on_62 : decode mX9_on.2.1 62 = .ok (.iconst 2, 1) := by decide +kernel
theorem dX9_on_63 : decode mX9_on.2.1 63 = .ok (.invokevirtual 330, 3) := by decide +kernel
theorem dX9_on_66 : decode mX9_on.2.1 66 = .ok (.putfield 150, 3) := by decide +kernel
theorem dX9_on_69 : decode mX9_on.2.1 69 = .ok (.iconst 3, 1) := by decide +kernel
theorem dX9_on_70 : decode mX9_on.2.1 70 = .ok (.istore_n 2, 1) := by decide +kernel
theorem dX9_on_71 : decode mX9_on.2.1 71 = .ok (.iconst 0, 1) := by decide +kernel
theorem dX9_on_72 : decode mX9_on.2.1 72 = .ok (.istore_n 3, 1) := by decide +kernel
theorem dX9_on_73 : decode mX9_on.2.1 73 = .ok (.iload_n 3, 1) := by decide +kernel
theorem dX9_on_74 : decode mX9_on.2.1 74 = .ok (.aload_n 0, 1) := by decide +kernel
theorem dX9_on_75 : decode mX9_on.2.1 75 = .ok (.getfield 22, 3) := by decide +kernel
theorem dX9_on_78 : decode mX9_on.2.1 78 = .ok (.getfield 144, 3) := by decide +kernel
theorem dX9_on_81 : decode mX9_on.2.1 81 = .ok (.iconst 0, 1) := by decide +kernel
theorem dX9_on_82 : decode mX9_on.2.1 82 = .ok (.iaload, 1) := by decide +kernel
theorem dX9_on_83 : decode mX9_on.2.1 83 = .ok (.if_icmp .ge 26, 3) := by decide +kernel
theorem dX9_on_86 : decode mX9_on.2.1 86 = .ok (.aload_n 0, 1) := by decide +kernel
theorem dX9_on_87 : decode mX9_on.2.1 87 = .ok (.getfield 35, 3) := by decide +kernel
theorem dX9_on_90 : decode mX9_on.2.1 90 = .ok (.getfield 179, 3) := by decide +kernel
theorem dX9_on_93 : decode mX9_on.2.1 93 = .ok (.iload_n 3, 1) := by decide +kernel
theorem dX9_on_94 : decode mX9_on.2.1 94 = .ok (.aload_n 0, 1) := by decide +kernel
theorem dX9_on_95 : decode mX9_on.2.1 95 = .ok (.iload_n 2, 1) := by decide +kernel
theorem dX9_on_96 : decode mX9_on.2.1 96 = .ok (.iinc 2 1, 3) := by decide +kernel
theorem dX9_on_99 : decode mX9_on.2.1 99 = .ok (.invokevirtual 330, 3) := by decide +kernel
theorem dX9_on_102 : decode mX9_on.2.1 102 = .ok (.iastore, 1) := by decide +kernel
theorem dX9_on_103 : decode mX9_on.2.1 103 = .ok (.iinc 3 1, 3) := by decide +kernel
theorem dX9_on_106 : decode mX9_on.2.1 106 = .ok (.goto (-33), 3) := by decide +kernel
theorem dX9_on_109 : decode mX9_on.2.1 109 = .ok (.iconst 0, 1) := by decide +kernel
theorem dX9_on_110 : decode mX9_on.2.1 110 = .ok (.istore_n 3, 1) := by decide +kernel
theorem dX9_on_111 : decode mX9_on.2.1 111 = .ok (.iload_n 3, 1) := by decide +kernel
theorem dX9_on_112 : decode mX9_on.2.1 112 = .ok (.aload_n 0, 1) := by decide +kernel
theorem dX9_on_113 : decode mX9_on.2.1 113 = .ok (.getfield 22, 3) := by decide +kernel
theorem dX9_on_116 : decode mX9_on.2.1 116 = .ok (.getfield 144, 3) := by decide +kernel
theorem dX9_on_119 : decode mX9_on.2.1 119 = .ok (.iconst 1, 1) := by decide +kernel
theorem dX9_on_120 : decode mX9_on.2.1 120 = .ok (.iaload, 1) := by decide +kernel
theorem dX9_on_121 : decode mX9_on.2.1 121 = .ok (.if_icmp .ge 26, 3) := by decide +kernel
theorem dX9_on_124 : decode mX9_on.2.1 124 = .ok (.aload_n 0, 1) := by decide +kernel
theorem dX9_on_125 : decode mX9_on.2.1 125 = .ok (.getfield 35, 3) := by decide +kernel
theorem dX9_on_128 : decode mX9_on.2.1 128 = .ok (.getfield 192, 3) := by decide +kernel
theorem dX9_on_131 : decode mX9_on.2.1 131 = .ok (.iload_n 3, 1) := by decide +kernel
theorem dX9_on_132 : decode mX9_on.2.1 132 = .ok (.aload_n 0, 1) := by decide +kernel
theorem dX9_on_133 : decode mX9_on.2.1 133 = .ok (.iload_n 2, 1) := by decide +kernel
theorem dX9_on_134 : decode mX9_on.2.1 134 = .ok (.iinc 2 1, 3) := by decide +kernel
theorem dX9_on_137 : decode mX9_on.2.1 137 = .ok (.invokevirtual 330, 3) := by decide +kernel
theorem dX9_on_140 : decode mX9_on.2.1 140 = .ok (.iastore, 1) := by decide +kernel
theorem dX9_on_141 : decode mX9_on.2.1 141 = .ok (.iinc 3 1, 3) := by decide +kernel
theorem dX9_on_144 : decode mX9_on.2.1 144 = .ok (.goto (-33), 3) := by decide +kernel
theorem dX9_on_147 : decode mX9_on.2.1 147 = .ok (.iconst 0, 1) := by decide +kernel
theorem dX9_on_148 : decode mX9_on.2.1 148 = .ok (.istore_n 3, 1) := by decide +kernel
theorem dX9_on_149 : decode mX9_on.2.1 149 = .ok (.iload_n 3, 1) := by decide +kernel
theorem dX9_on_150 : decode mX9_on.2.1 150 = .ok (.aload_n 0, 1) := by decide +kernel
theorem dX9_on_151 : decode mX9_on.2.1 151 = .ok (.getfield 22, 3) := by decide +kernel
theorem dX9_on_154 : decode mX9_on.2.1 154 = .ok (.getfield 144, 3) := by decide +kernel
theorem dX9_on_157 : decode mX9_on.2.1 157 = .ok (.iconst 2, 1) := by decide +kernel
theorem dX9_on_158 : decode mX9_on.2.1 158 = .ok (.iaload, 1) := by decide +kernel
theorem dX9_on_159 : decode mX9_on.2.1 159 = .ok (.if_icmp .ge 31, 3) := by decide +kernel
theorem dX9_on_162 : decode mX9_on.2.1 162 = .ok (.aload_n 0, 1) := by decide +kernel
theorem dX9_on_163 : decode mX9_on.2.1 163 = .ok (.getfield 35, 3) := by decide +kernel
theorem dX9_on_166 : decode mX9_on.2.1 166 = .ok (.dup, 1) := by decide +kernel
theorem dX9_on_167 : decode mX9_on.2.1 167 = .ok (.getfield 160, 3) := by decide +kernel
theorem dX9_on_170 : decode mX9_on.2.1 170 = .ok (.aload_n 0, 1) := by decide +kernel
theorem dX9_on_171 : decode mX9_on.2.1 171 = .ok (.iload_n 2, 1) := by decide +kernel
theorem dX9_on_172 : decode mX9_on.2.1 172 = .ok (.iinc 2 1, 3) := by decide +kernel
theorem dX9_on_175 : decode mX9_on.2.1 175 = .ok (.invokevirtual 330, 3) := by decide +kernel
theorem dX9_on_178 : decode mX9_on.2.1 178 = .ok (.iload_n 3, 1) := by decide +kernel
theorem dX9_on_179 : decode mX9_on.2.1 179 = .ok (.ishl, 1) := by decide +kernel
theorem dX9_on_180 : decode mX9_on.2.1 180 = .ok (.ior, 1) := by decide +kernel
theorem dX9_on_181 : decode mX9_on.2.1 181 = .ok (.putfield 160, 3) := by decide +kernel
theorem dX9_on_184 : decode mX9_on.2.1 184 = .ok (.iinc 3 1, 3) := by decide +kernel
theorem dX9_on_187 : decode mX9_on.2.1 187 = .ok (.goto (-38), 3) := by decide +kernel
theorem dX9_on_190 : decode mX9_on.2.1 190 = .ok (.aload_n 0, 1) := by decide +kernel
theorem dX9_on_191 : decode mX9_on.2.1 191 = .ok (.getfield 54, 3) := by decide +kernel
theorem dX9_on_194 : decode mX9_on.2.1 194 = .ok (.invokevirtual 132, 3) := by decide +kernel
theorem dX9_on_197 : decode mX9_on.2.1 197 = .ok (.aload_n 0, 1) := by decide +kernel
theorem dX9_on_198 : decode mX9_on.2.1 198 = .ok (.invokevirtual 138, 3) := by decide +kernel
theorem dX9_on_201 : decode mX9_on.2.1 201 = .ok (.iconst 1, 1) := by decide +kernel
theorem dX9_on_202 : decode mX9_on.2.1 202 = .ok (.ireturn, 1) := by decide +kernel
abbrev mX9_isImage : aM := (yX9_isImage, cX9_isImage, 7, (some .boolean))
theorem dX9_isImage_0 : decode mX9_isImage.2.1 0 = .ok (.aload_n 0, 1) := by decide +kernel
theorem dX9_isImage_1 : decode mX9_isImage.2.1 1 = .ok (.getfield 22, 3) := by decide +kernel
theorem dX9_isImage_4 : decode mX9_isImage.2.1 4 = .ok (.getfield 144, 3) := by decide +kernel
theorem dX9_isImage_7 : decode mX9_isImage.2.1 7 = .ok (.iconst 0, 1) := by decide +kernel
theorem dX9_isImage_8 : decode mX9_isImage.2.1 8 = .ok (.iaload, 1) := by decide +kernel
theorem dX9_isImage_9 : decode mX9_isImage.2.1 9 = .ok (.istore_n 2, 1) := by decide +kernel
theorem dX9_isImage_10 : decode mX9_isImage.2.1 10 = .ok (.aload_n 0, 1) := by decide +kernel
theorem dX9_isImage_11 : decode mX9_isImage.2.1 11 = .ok (.getfield 22, 3) := by decide +kernel
theorem dX9_isImage_14 : decode mX9_isImage.2.1 14 = .ok (.getfield 144, 3) := by decide +kernel
theorem dX9_isImage_17 : decode mX9_isImage.2.1 17 = .ok (.iconst 1, 1) := by decide +kernel
theorem dX9_isImage_18 : decode mX9_isImage.2.1 18 = .ok (.iaload, 1) := by decide +kernel
theorem dX9_isImage_19 : decode mX9_isImage.2.1 19 = .ok (.istore_n 3, 1) := by decide +kernel
theorem dX9_isImage_20 : decode mX9_isImage.2.1 20 = .ok (.iload_n 1, 1) := by decide +kernel
theorem dX9_isImage_21 : decode mX9_isImage.2.1 21 = .ok (.iconst 3, 1) := by decide +kernel
theorem dX9_isImage_22 : decode mX9_isImage.2.1 22 = .ok (.iload_n 2, 1) := by decide +kernel
theorem dX9_isImage_23 : decode mX9_isImage.2.1 23 = .ok (.iadd, 1) := by decide +kernel
theorem dX9_isImage_24 : decode mX9_isImage.2.1 24 = .ok (.iload_n 3, 1) := by decide +kernel
theorem dX9_isImage_25 : decode mX9_isImage.2.1 25 = .ok (.iadd, 1) := by decide +kernel
theorem dX9_isImage_26 : decode mX9_isImage.2.1 26 = .ok (.aload_n 0, 1) := by decide +kernel
theorem dX9_isImage_27 : decode mX9_isImage.2.1 27 = .ok (.getfield 22, 3) := by decide +kernel
theorem dX9_isImage_30 : decode mX9_isImage.2.1 30 = .ok (.getfield 144, 3) := by decide +kernel
theorem dX9_isImage_33 : decode mX9_isImage.2.1 33 = .ok (.iconst 2, 1) := by decide +kernel
theorem dX9_isImage_34 : decode mX9_isImage.2.1 34 = .ok (.iaload, 1) := by decide +kernel
theorem dX9_isImage_35 : decode mX9_isImage.2.1 35 = .ok (.iadd, 1) := by decide +kernel
theorem dX9_isImage_36 : decode mX9_isImage.2.1 36 = .ok (.iconst 1, 1) := by decide +kernel
theorem dX9_isImage_37 : decode mX9_isImage.2.1 37 = .ok (.iadd, 1) := by decide +kernel
theorem dX9_isImage_38 : decode mX9_isImage.2.1 38 = .ok (.if_icmp .eq 5, 3) := by decide +kernel
theorem dX9_isImage_41 : decode mX9_isImage.2.1 41 = .ok (.iconst 0, 1) := by decide +kernel
theorem dX9_isImage_42 : decode mX9_isImage.2.1 42 = .ok (.ireturn, 1) := by decide +kernel
theorem dX9_isImage_43 : decode mX9_isImage.2.1 43 = .ok (.aload_n 0, 1) := by decide +kernel
theorem dX9_isImage_44 : decode mX9_isImage.2.1 44 = .ok (.iconst 0, 1) := by decide +kernel
theorem dX9_isImage_45 : decode mX9_isImage.2.1 45 = .ok (.invokevirtual 330, 3) := by decide +kernel
theorem dX9_isImage_48 : decode mX9_isImage.2.1 48 = .ok (.sipush 256, 3) := by decide +kernel
theorem dX9_isImage_51 : decode mX9_isImage.2.1 51 = .ok (.imul, 1) := by decide +kernel
theorem dX9_isImage_52 : decode mX9_isImage.2.1 52 = .ok (.aload_n 0, 1) := by decide +kernel
theorem dX9_isImage_53 : decode mX9_isImage.2.1 53 = .ok (.iconst 1, 1) := by decide +kernel
theorem dX9_isImage_54 : decode mX9_isImage.2.1 54 = .ok (.invokevirtual 330, 3) := by decide +kernel
theorem dX9_isImage_57 : decode mX9_isImage.2.1 57 = .ok (.iadd, 1) := by decide +kernel
theorem dX9_isImage_58 : decode mX9_isImage.2.1 58 = .ok (.sipush 999, 3) := by decide +kernel
theorem dX9_isImage_61 : decode mX9_isImage.2.1 61 = .ok (.if_icmp .gt 17, 3) := by decide +kernel
theorem dX9_isImage_64 : decode mX9_isImage.2.1 64 = .ok (.aload_n 0, 1) := by decide +kernel
theorem dX9_isImage_65 : decode mX9_isImage.2.1 65 = .ok (.iconst 2, 1) := by decide +kernel
theorem dX9_isImage_66 : decode mX9_isImage.2.1 66 = .ok (.invokevirtual 330, 3) := by decide +kernel
theorem dX9_isImage_69 : decode mX9_isImage.2.1 69 = .ok (.bipush 99, 2) := by decide +kernel
theorem dX9_isImage_71 : decode mX9_isImage.2.1 71 = .ok (.if_icmp .gt 7, 3) := by decide +kernel
theorem dX9_isImage_74 : decode mX9_isImage.2.1 74 = .ok (.iconst 1, 1) := by decide +kernel
theorem dX9_isImage_75 : decode mX9_isImage.2.1 75 = .ok (.goto 4, 3) := by decide +kernel
theorem dX9_isImage_78 : decode mX9_isImage.2.1 78 = .ok (.iconst 0, 1) := by decide +kernel
theorem dX9_isImage_79 : decode mX9_isImage.2.1 79 = .ok (.istore 4, 2) := by decide +kernel
theorem dX9_isImage_81 : decode mX9_isImage.2.1 81 = .ok (.sipush 211, 3) := by decide +kernel
theorem dX9_isImage_84 : decode mX9_isImage.2.1 84 = .ok (.istore 5, 2) := by decide +kernel
theorem dX9_isImage_86 : decode mX9_isImage.2.1 86 = .ok (.iconst 0, 1) := by decide +kernel
theorem dX9_isImage_87 : decode mX9_isImage.2.1 87 = .ok (.istore 6, 2) := by decide +kernel
theorem dX9_isImage_89 : decode mX9_isImage.2.1 89 = .ok (.iload 6, 2) := by decide +kernel
theorem dX9_isImage_91 : decode mX9_isImage.2.1 91 = .ok (.iload_n 1, 1) := by decide +kernel
theorem dX9_isImage_92 : decode mX9_isImage.2.1 92 = .ok (.iconst 1, 1) := by decide +kernel
theorem dX9_isImage_93 : decode mX9_isImage.2.1 93 = .ok (.isub, 1) := by decide +kernel
theorem dX9_isImage_94 : decode mX9_isImage.2.1 94 = .ok (.if_icmp .ge 63, 3) := by decide +kernel
theorem dX9_isImage_97 : decode mX9_isImage.2.1 97 = .ok (.iconst 5, 1) := by decide +kernel
theorem dX9_isImage_98 : decode mX9_isImage.2.1 98 = .ok (.iload 5, 2) := by decide +kernel
theorem dX9_isImage_100 : decode mX9_isImage.2.1 100 = .ok (.imul, 1) := by decide +kernel
theorem dX9_isImage_101 : decode mX9_isImage.2.1 101 = .ok (.aload_n 0, 1) := by decide +kernel
theorem dX9_isImage_102 : decode mX9_isImage.2.1 102 = .ok (.iload 6, 2) := by decide +kernel
theorem dX9_isImage_104 : decode mX9_isImage.2.1 104 = .ok (.invokevirtual 330, 3) := by decide +kernel
theorem dX9_isImage_107 : decode mX9_isImage.2.1 107 = .ok (.iadd, 1) := by decide +kernel
theorem dX9_isImage_108 : decode mX9_isImage.2.1 108 = .ok (.sipush 251, 3) := by decide +kernel
theorem dX9_isImage_111 : decode mX9_isImage.2.1 111 = .ok (.irem, 1) := by decide +kernel
theorem dX9_isImage_112 : decode mX9_isImage.2.1 112 = .ok (.istore 5, 2) := by decide +kernel
theorem dX9_isImage_114 : decode mX9_isImage.2.1 114 = .ok (.iload 6, 2) := by decide +kernel
theorem dX9_isImage_116 : decode mX9_isImage.2.1 116 = .ok (.iconst 3, 1) := by decide +kernel
theorem dX9_isImage_117 : decode mX9_isImage.2.1 117 = .ok (.if_icmp .lt 34, 3) := by decide +kernel
theorem dX9_isImage_120 : decode mX9_isImage.2.1 120 = .ok (.iload 4, 2) := by decide +kernel
theorem dX9_isImage_122 : decode mX9_isImage.2.1 122 = .ok (.ifCond .eq 26, 3) := by decide +kernel
theorem dX9_isImage_125 : decode mX9_isImage.2.1 125 = .ok (.aload_n 0, 1) := by decide +kernel
theorem dX9_isImage_126 : decode mX9_isImage.2.1 126 = .ok (.iload 6, 2) := by decide +kernel
theorem dX9_isImage_128 : decode mX9_isImage.2.1 128 = .ok (.invokevirtual 330, 3) := by decide +kernel
theorem dX9_isImage_131 : decode mX9_isImage.2.1 131 = .ok (.aload_n 0, 1) := by decide +kernel
theorem dX9_isImage_132 : decode mX9_isImage.2.1 132 = .ok (.iload 6, 2) := by decide +kernel
theorem dX9_isImage_134 : decode mX9_isImage.2.1 134 = .ok (.iconst 3, 1) := by decide +kernel
theorem dX9_isImage_135 : decode mX9_isImage.2.1 135 = .ok (.isub, 1) := by decide +kernel
theorem dX9_isImage_136 : decode mX9_isImage.2.1 136 = .ok (.iload_n 2, 1) := by decide +kernel
theorem dX9_isImage_137 : decode mX9_isImage.2.1 137 = .ok (.iload_n 3, 1) := by decide +kernel
theorem dX9_isImage_138 : decode mX9_isImage.2.1 138 = .ok (.invokevirtual 333, 3) := by decide +kernel
theorem dX9_isImage_141 : decode mX9_isImage.2.1 141 = .ok (.if_icmp .gt 7, 3) := by decide +kernel
theorem dX9_isImage_144 : decode mX9_isImage.2.1 144 = .ok (.iconst 1, 1) := by decide +kernel
theorem dX9_isImage_145 : decode mX9_isImage.2.1 145 = .ok (.goto 4, 3) := by decide +kernel
theorem dX9_isImage_148 : decode mX9_isImage.2.1 148 = .ok (.iconst 0, 1) := by decide +kernel
theorem dX9_isImage_149 : decode mX9_isImage.2.1 149 = .ok (.istore 4, 2) := by decide +kernel
theorem dX9_isImage_151 : decode mX9_isImage.2.1 151 = .ok (.iinc 6 1, 3) := by decide +kernel
theorem dX9_isImage_154 : decode mX9_isImage.2.1 154 = .ok (.goto (-65), 3) := by decide +kernel
theorem dX9_isImage_157 : decode mX9_isImage.2.1 157 = .ok (.iload 4, 2) := by decide +kernel
theorem dX9_isImage_159 : decode mX9_isImage.2.1 159 = .ok (.ifCond .eq 19, 3) := by decide +kernel
theorem dX9_isImage_162 : decode mX9_isImage.2.1 162 = .ok (.aload_n 0, 1) := by decide +kernel
theorem dX9_isImage_163 : decode mX9_isImage.2.1 163 = .ok (.iload_n 1, 1) := by decide +kernel
theorem dX9_isImage_164 : decode mX9_isImage.2.1 164 = .ok (.iconst 1, 1) := by decide +kernel
theorem dX9_isImage_165 : decode mX9_isImage.2.1 165 = .ok (.isub, 1) := by decide +kernel
theorem dX9_isImage_166 : decode mX9_isImage.2.1 166 = .ok (.invokevirtual 330, 3) := by decide +kernel
theorem dX9_isImage_169 : decode mX9_isImage.2.1 169 = .ok (.iload 5, 2) := by decide +kernel
theorem dX9_isImage_171 : decode mX9_isImage.2.1 171 = .ok (.if_icmp .ne 7, 3) := by decide +kernel
theorem dX9_isImage_174 : decode mX9_isImage.2.1 174 = .ok (.iconst 1, 1) := by decide +kernel
theorem dX9_isImage_175 : decode mX9_isImage.2.1 175 = .ok (.goto 4, 3) := by decide +kernel
theorem dX9_isImage_178 : decode mX9_isImage.2.1 178 = .ok (.iconst 0, 1) := by decide +kernel
theorem dX9_isImage_179 : decode mX9_isImage.2.1 179 = .ok (.ireturn, 1) := by decide +kernel
abbrev mX9_imageMost : aM := (yX9_imageMost, cX9_imageMost, 4, (some .int))
theorem dX9_imageMost_0 : decode mX9_imageMost.2.1 0 = .ok (.iload_n 1, 1) := by decide +kernel
theorem dX9_imageMost_1 : decode mX9_imageMost.2.1 1 = .ok (.iload_n 2, 1) := by decide +kernel
theorem dX9_imageMost_2 : decode mX9_imageMost.2.1 2 = .ok (.if_icmp .ge 12, 3) := by decide +kernel
theorem dX9_imageMost_5 : decode mX9_imageMost.2.1 5 = .ok (.aload_n 0, 1) := by decide +kernel
theorem dX9_imageMost_6 : decode mX9_imageMost.2.1 6 = .ok (.getfield 22, 3) := by decide +kernel
theorem dX9_imageMost_9 : decode mX9_imageMost.2.1 9 = .ok (.iload_n 1, 1) := by decide +kernel
theorem dX9_imageMost_10 : decode mX9_imageMost.2.1 10 = .ok (.invokevirtual 302, 3) := by decide +kernel
theorem dX9_imageMost_13 : decode mX9_imageMost.2.1 13 = .ok (.ireturn, 1) := by decide +kernel
theorem dX9_imageMost_14 : decode mX9_imageMost.2.1 14 = .ok (.iload_n 1, 1) := by decide +kernel
theorem dX9_imageMost_15 : decode mX9_imageMost.2.1 15 = .ok (.iload_n 2, 1) := by decide +kernel
theorem dX9_imageMost_16 : decode mX9_imageMost.2.1 16 = .ok (.iload_n 3, 1) := by decide +kernel
theorem dX9_imageMost_17 : decode mX9_imageMost.2.1 17 = .ok (.iadd, 1) := by decide +kernel
theorem dX9_imageMost_18 : decode mX9_imageMost.2.1 18 = .ok (.if_icmp .ge 8, 3) := by decide +kernel
theorem dX9_imageMost_21 : decode mX9_imageMost.2.1 21 = .ok (.bipush 99, 2) := by decide +kernel
theorem dX9_imageMost_23 : decode mX9_imageMost.2.1 23 = .ok (.goto 4, 3) := by decide +kernel
theorem dX9_imageMost_26 : decode mX9_imageMost.2.1 26 = .ok (.iconst 1, 1) := by decide +kernel
theorem dX9_imageMost_27 : decode mX9_imageMost.2.1 27 = .ok (.ireturn, 1) := by decide +kernel
abbrev mX9_tapeByte : aM := (yX9_tapeByte, cX9_tapeByte, 2, (some .int))
theorem dX9_tapeByte_0 : decode mX9_tapeByte.2.1 0 = .ok (.iload_n 1, 1) := by decide +kernel
theorem dX9_tapeByte_1 : decode mX9_tapeByte.2.1 1 = .ok (.ifCond .lt 23, 3) := by decide +kernel
theorem dX9_tapeByte_4 : decode mX9_tapeByte.2.1 4 = .ok (.iload_n 1, 1) := by decide +kernel
theorem dX9_tapeByte_5 : decode mX9_tapeByte.2.1 5 = .ok (.sipush 1600, 3) := by decide +kernel
theorem dX9_tapeByte_8 : decode mX9_tapeByte.2.1 8 = .ok (.if_icmp .ge 16, 3) := by decide +kernel
theorem dX9_tapeByte_11 : decode mX9_tapeByte.2.1 11 = .ok (.aload_n 0, 1) := by decide +kernel
theorem dX9_tapeByte_12 : decode mX9_tapeByte.2.1 12 = .ok (.getfield 9, 3) := by decide +kernel
theorem dX9_tapeByte_15 : decode mX9_tapeByte.2.1 15 = .ok (.iload_n 1, 1) := by decide +kernel
theorem dX9_tapeByte_16 : decode mX9_tapeByte.2.1 16 = .ok (.baload, 1) := by decide +kernel
theorem dX9_tapeByte_17 : decode mX9_tapeByte.2.1 17 = .ok (.sipush 255, 3) := by decide +kernel
theorem dX9_tapeByte_20 : decode mX9_tapeByte.2.1 20 = .ok (.iand, 1) := by decide +kernel
theorem dX9_tapeByte_21 : decode mX9_tapeByte.2.1 21 = .ok (.goto 4, 3) := by decide +kernel
theorem dX9_tapeByte_24 : decode mX9_tapeByte.2.1 24 = .ok (.iconst 0, 1) := by decide +kernel
theorem dX9_tapeByte_25 : decode mX9_tapeByte.2.1 25 = .ok (.ireturn, 1) := by decide +kernel
abbrev mX9_status : aM := (yX9_status, cX9_status, 2, (some .int))
theorem dX9_status_0 : decode mX9_status.2.1 0 = .ok (.iload_n 1, 1) := by decide +kernel
theorem dX9_status_1 : decode mX9_status.2.1 1 = .ok (.ifCond .lt 21, 3) := by decide +kernel
theorem dX9_status_4 : decode mX9_status.2.1 4 = .ok (.iload_n 1, 1) := by decide +kernel
theorem dX9_status_5 : decode mX9_status.2.1 5 = .ok (.aload_n 0, 1) := by decide +kernel
theorem dX9_status_6 : decode mX9_status.2.1 6 = .ok (.getfield 99, 3) := by decide +kernel
theorem dX9_status_9 : decode mX9_status.2.1 9 = .ok (.arraylength, 1) := by decide +kernel
theorem dX9_status_10 : decode mX9_status.2.1 10 = .ok (.if_icmp .ge 12, 3) := by decide +kernel
theorem dX9_status_13 : decode mX9_status.2.1 13 = .ok (.aload_n 0, 1) := by decide +kernel
theorem dX9_status_14 : decode mX9_status.2.1 14 = .ok (.getfield 99, 3) := by decide +kernel
theorem dX9_status_17 : decode mX9_status.2.1 17 = .ok (.iload_n 1, 1) := by decide +kernel
theorem dX9_status_18 : decode mX9_status.2.1 18 = .ok (.iaload, 1) := by decide +kernel
theorem dX9_status_19 : decode mX9_status.2.1 19 = .ok (.goto 4, 3) := by decide +kernel
theorem dX9_status_22 : decode mX9_status.2.1 22 = .ok (.iconst (-1), 1) := by decide +kernel
theorem dX9_status_23 : decode mX9_status.2.1 23 = .ok (.ireturn, 1) := by decide +kernel
abbrev mX9_refuse : aM := (yX9_refuse, cX9_refuse, 2, (some .int))
theorem dX9_refuse_0 : decode mX9_refuse.2.1 0 = .ok (.aload_n 0, 1) := by decide +kernel
theorem dX9_refuse_1 : decode mX9_refuse.2.1 1 = .ok (.getfield 99, 3) := by decide +kernel
theorem dX9_refuse_4 : decode mX9_refuse.2.1 4 = .ok (.iload_n 1, 1) := by decide +kernel
theorem dX9_refuse_5 : decode mX9_refuse.2.1 5 = .ok (.dup2, 1) := by decide +kernel
theorem dX9_refuse_6 : decode mX9_refuse.2.1 6 = .ok (.iaload, 1) := by decide +kernel
theorem dX9_refuse_7 : decode mX9_refuse.2.1 7 = .ok (.iconst 1, 1) := by decide +kernel
theorem dX9_refuse_8 : decode mX9_refuse.2.1 8 = .ok (.iadd, 1) := by decide +kernel
theorem dX9_refuse_9 : decode mX9_refuse.2.1 9 = .ok (.iastore, 1) := by decide +kernel
theorem dX9_refuse_10 : decode mX9_refuse.2.1 10 = .ok (.iconst (-1), 1) := by decide +kernel
theorem dX9_refuse_11 : decode mX9_refuse.2.1 11 = .ok (.ireturn, 1) := by decide +kernel
abbrev mX9_deny : aM := (yX9_deny, cX9_deny, 2, (some .boolean))
theorem dX9_deny_0 : decode mX9_deny.2.1 0 = .ok (.aload_n 0, 1) := by decide +kernel
theorem dX9_deny_1 : decode mX9_deny.2.1 1 = .ok (.getfield 99, 3) := by decide +kernel
theorem dX9_deny_4 : decode mX9_deny.2.1 4 = .ok (.iload_n 1, 1) := by decide +kernel
theorem dX9_deny_5 : decode mX9_deny.2.1 5 = .ok (.dup2, 1) := by decide +kernel
theorem dX9_deny_6 : decode mX9_deny.2.1 6 = .ok (.iaload, 1) := by decide +kernel
theorem dX9_deny_7 : decode mX9_deny.2.1 7 = .ok (.iconst 1, 1) := by decide +kernel
theorem dX9_deny_8 : decode mX9_deny.2.1 8 = .ok (.iadd, 1) := by decide +kernel
theorem dX9_deny_9 : decode mX9_deny.2.1 9 = .ok (.iastore, 1) := by decide +kernel
theorem dX9_deny_10 : decode mX9_deny.2.1 10 = .ok (.iconst 0, 1) := by decide +kernel
theorem dX9_deny_11 : decode mX9_deny.2.1 11 = .ok (.ireturn, 1) := by decide +kernel
