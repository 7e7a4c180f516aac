abbrev mX4_init : aM := (yX4_init, cX4_init, 3, none)
theorem dX4_init_0 : decode mX4_init.2.1 0 = .ok (.aload_n 0, 1) := by decide +kernel
theorem dX4_init_1 : decode mX4_init.2.1 1 = .ok (.invokespecial 3, 3) := by decide +kernel
theorem dX4_init_4 : decode mX4_init.2.1 4 = .ok (.aload_n 0, 1) := by decide +kernel
theorem dX4_init_5 : decode mX4_init.2.1 5 = .ok (.iconst 0, 1) := by decide +kernel
theorem dX4_init_6 : decode mX4_init.2.1 6 = .ok (.putfield 9, 3) := by decide +kernel
theorem dX4_init_9 : decode mX4_init.2.1 9 = .ok (.aload_n 0, 1) := by decide +kernel
theorem dX4_init_10 : decode mX4_init.2.1 10 = .ok (.iconst (-1), 1) := by decide +kernel
theorem dX4_init_11 : decode mX4_init.2.1 11 = .ok (.putfield 15, 3) := by decide +kernel
theorem dX4_init_14 : decode mX4_init.2.1 14 = .ok (.aload_n 0, 1) := by decide +kernel
theorem dX4_init_15 : decode mX4_init.2.1 15 = .ok (.iconst 0, 1) := by decide +kernel
theorem dX4_init_16 : decode mX4_init.2.1 16 = .ok (.putfield 18, 3) := by decide +kernel
theorem dX4_init_19 : decode mX4_init.2.1 19 = .ok (.aload_n 0, 1) := by decide +kernel
theorem dX4_init_20 : decode mX4_init.2.1 20 = .ok (.iconst 0, 1) := by decide +kernel
theorem dX4_init_21 : decode mX4_init.2.1 21 = .ok (.putfield 21, 3) := by decide +kernel
theorem dX4_init_24 : decode mX4_init.2.1 24 = .ok (.aload_n 0, 1) := by decide +kernel
theorem dX4_init_25 : decode mX4_init.2.1 25 = .ok (.iconst 1, 1) := by decide +kernel
theorem dX4_init_26 : decode mX4_init.2.1 26 = .ok (.putfield 24, 3) := by decide +kernel
theorem dX4_init_29 : decode mX4_init.2.1 29 = .ok (.aload_n 0, 1) := by decide +kernel
theorem dX4_init_30 : decode mX4_init.2.1 30 = .ok (.iconst 0, 1) := by decide +kernel
theorem dX4_init_31 : decode mX4_init.2.1 31 = .ok (.putfield 27, 3) := by decide +kernel
theorem dX4_init_34 : decode mX4_init.2.1 34 = .ok (.aload_n 0, 1) := by decide +kernel
theorem dX4_init_35 : decode mX4_init.2.1 35 = .ok (.iconst (-1), 1) := by decide +kernel
theorem dX4_init_36 : decode mX4_init.2.1 36 = .ok (.putfield 30, 3) := by decide +kernel
theorem dX4_init_39 : decode mX4_init.2.1 39 = .ok (.aload_n 0, 1) := by decide +kernel
theorem dX4_init_40 : decode mX4_init.2.1 40 = .ok (.iconst (-1), 1) := by decide +kernel
theorem dX4_init_41 : decode mX4_init.2.1 41 = .ok (.putfield 33, 3) := by decide +kernel
theorem dX4_init_44 : decode mX4_init.2.1 44 = .ok (.aload_n 0, 1) := by decide +kernel
theorem dX4_init_45 : decode mX4_init.2.1 45 = .ok (.aload_n 1, 1) := by decide +kernel
theorem dX4_init_46 : decode mX4_init.2.1 46 = .ok (.putfield 36, 3) := by decide +kernel
theorem dX4_init_49 : decode mX4_init.2.1 49 = .ok (.aload_n 0, 1) := by decide +kernel
theorem dX4_init_50 : decode mX4_init.2.1 50 = .ok (.iconst 0, 1) := by decide +kernel
theorem dX4_init_51 : decode mX4_init.2.1 51 = .ok (.iload_n 2, 1) := by decide +kernel
theorem dX4_init_52 : decode mX4_init.2.1 52 = .ok (.aload_n 1, 1) := by decide +kernel
theorem dX4_init_53 : decode mX4_init.2.1 53 = .ok (.arraylength, 1) := by decide +kernel
theorem dX4_init_54 : decode mX4_init.2.1 54 = .ok (.invokestatic 40, 3) := by decide +kernel
theorem dX4_init_57 : decode mX4_init.2.1 57 = .ok (.invokestatic 46, 3) := by decide +kernel
theorem dX4_init_60 : decode mX4_init.2.1 60 = .ok (.putfield 49, 3) := by decide +kernel
theorem dX4_init_63 : decode mX4_init.2.1 63 = .ok (.aload_n 0, 1) := by decide +kernel
theorem dX4_init_64 : decode mX4_init.2.1 64 = .ok (.new 52, 3) := by decide +kernel
theorem dX4_init_67 : decode mX4_init.2.1 67 = .ok (.dup, 1) := by decide +kernel
theorem dX4_init_68 : decode mX4_init.2.1 68 = .ok (.aload_n 0, 1) := by decide +kernel
theorem dX4_init_69 : decode mX4_init.2.1 69 = .ok (.getfield 49, 3) := by decide +kernel
theorem dX4_init_72 : decode mX4_init.2.1 72 = .ok (.invokespecial 54, 3) := by decide +kernel
theorem dX4_init_75 : decode mX4_init.2.1 75 = .ok (.putfield 57, 3) := by decide +kernel
theorem dX4_init_78 : decode mX4_init.2.1 78 = .ok (.return_, 1) := by decide +kernel
abbrev mX4_parse : aM := (yX4_parse, cX4_parse, 2, none)
theorem dX4_parse_0 : decode mX4_parse.2.1 0 = .ok (.aload_n 0, 1) := by decide +kernel
theorem dX4_parse_1 : decode mX4_parse.2.1 1 = .ok (.invokevirtual 61, 3) := by decide +kernel
theorem dX4_parse_4 : decode mX4_parse.2.1 4 = .ok (.iconst 0, 1) := by decide +kernel
theorem dX4_parse_5 : decode mX4_parse.2.1 5 = .ok (.istore_n 1, 1) := by decide +kernel
theorem dX4_parse_6 : decode mX4_parse.2.1 6 = .ok (.iload_n 1, 1) := by decide +kernel
theorem dX4_parse_7 : decode mX4_parse.2.1 7 = .ok (.bipush 80, 2) := by decide +kernel
theorem dX4_parse_9 : decode mX4_parse.2.1 9 = .ok (.if_icmp .ge 28, 3) := by decide +kernel
theorem dX4_parse_12 : decode mX4_parse.2.1 12 = .ok (.aload_n 0, 1) := by decide +kernel
theorem dX4_parse_13 : decode mX4_parse.2.1 13 = .ok (.getfield 24, 3) := by decide +kernel
theorem dX4_parse_16 : decode mX4_parse.2.1 16 = .ok (.iconst 1, 1) := by decide +kernel
theorem dX4_parse_17 : decode mX4_parse.2.1 17 = .ok (.if_icmp .eq 20, 3) := by decide +kernel
theorem dX4_parse_20 : decode mX4_parse.2.1 20 = .ok (.aload_n 0, 1) := by decide +kernel
theorem dX4_parse_21 : decode mX4_parse.2.1 21 = .ok (.getfield 24, 3) := by decide +kernel
theorem dX4_parse_24 : decode mX4_parse.2.1 24 = .ok (.ifCond .eq 13, 3) := by decide +kernel
theorem dX4_parse_27 : decode mX4_parse.2.1 27 = .ok (.aload_n 0, 1) := by decide +kernel
theorem dX4_parse_28 : decode mX4_parse.2.1 28 = .ok (.invokevirtual 64, 3) := by decide +kernel
theorem dX4_parse_31 : decode mX4_parse.2.1 31 = .ok (.iinc 1 1, 3) := by decide +kernel
theorem dX4_parse_34 : decode mX4_parse.2.1 34 = .ok (.goto (-28), 3) := by decide +kernel
theorem dX4_parse_37 : decode mX4_parse.2.1 37 = .ok (.return_, 1) := by decide +kernel
abbrev mX4_stop : aM := (yX4_stop, cX4_stop, 3, none)
theorem dX4_stop_0 : decode mX4_stop.2.1 0 = .ok (.aload_n 0, 1) := by decide +kernel
theorem dX4_stop_1 : decode mX4_stop.2.1 1 = .ok (.getfield 9, 3) := by decide +kernel
theorem dX4_stop_4 : decode mX4_stop.2.1 4 = .ok (.ifCond .ne 13, 3) := by decide +kernel
theorem dX4_stop_7 : decode mX4_stop.2.1 7 = .ok (.aload_n 0, 1) := by decide +kernel
theorem dX4_stop_8 : decode mX4_stop.2.1 8 = .ok (.iload_n 1, 1) := by decide +kernel
theorem dX4_stop_9 : decode mX4_stop.2.1 9 = .ok (.putfield 9, 3) := by decide +kernel
theorem dX4_stop_12 : decode mX4_stop.2.1 12 = .ok (.aload_n 0, 1) := by decide +kernel
theorem dX4_stop_13 : decode mX4_stop.2.1 13 = .ok (.iload_n 2, 1) := by decide +kernel
theorem dX4_stop_14 : decode mX4_stop.2.1 14 = .ok (.putfield 15, 3) := by decide +kernel
theorem dX4_stop_17 : decode mX4_stop.2.1 17 = .ok (.aload_n 0, 1) := by decide +kernel
theorem dX4_stop_18 : decode mX4_stop.2.1 18 = .ok (.iconst 0, 1) := by decide +kernel
theorem dX4_stop_19 : decode mX4_stop.2.1 19 = .ok (.putfield 24, 3) := by decide +kernel
theorem dX4_stop_22 : decode mX4_stop.2.1 22 = .ok (.return_, 1) := by decide +kernel
abbrev mX4_next : aM := (yX4_next, cX4_next, 3, none)
theorem dX4_next_0 : decode mX4_next.2.1 0 = .ok (.aload_n 0, 1) := by decide +kernel
theorem dX4_next_1 : decode mX4_next.2.1 1 = .ok (.getfield 24, 3) := by decide +kernel
theorem dX4_next_4 : decode mX4_next.2.1 4 = .ok (.ifCond .ne 4, 3) := by decide +kernel
theorem dX4_next_7 : decode mX4_next.2.1 7 = .ok (.return_, 1) := by decide +kernel
theorem dX4_next_8 : decode mX4_next.2.1 8 = .ok (.aload_n 0, 1) := by decide +kernel
theorem dX4_next_9 : decode mX4_next.2.1 9 = .ok (.getfield 24, 3) := by decide +kernel
theorem dX4_next_12 : decode mX4_next.2.1 12 = .ok (.iconst 2, 1) := by decide +kernel
theorem dX4_next_13 : decode mX4_next.2.1 13 = .ok (.if_icmp .eq 11, 3) := by decide +kernel
theorem dX4_next_16 : decode mX4_next.2.1 16 = .ok (.aload_n 0, 1) := by decide +kernel
theorem dX4_next_17 : decode mX4_next.2.1 17 = .ok (.getfield 24, 3) := by decide +kernel
theorem dX4_next_20 : decode mX4_next.2.1 20 = .ok (.iconst 3, 1) := by decide +kernel
theorem dX4_next_21 : decode mX4_next.2.1 21 = .ok (.if_icmp .ne 7, 3) := by decide +kernel
theorem dX4_next_24 : decode mX4_next.2.1 24 = .ok (.iconst 1, 1) := by decide +kernel
theorem dX4_next_25 : decode mX4_next.2.1 25 = .ok (.goto 4, 3) := by decide +kernel
theorem dX4_next_28 : decode mX4_next.2.1 28 = .ok (.iconst 0, 1) := by decide +kernel
theorem dX4_next_29 : decode mX4_next.2.1 29 = .ok (.istore_n 1, 1) := by decide +kernel
theorem dX4_next_30 : decode mX4_next.2.1 30 = .ok (.aload_n 0, 1) := by decide +kernel
theorem dX4_next_31 : decode mX4_next.2.1 31 = .ok (.getfield 18, 3) := by decide +kernel
theorem dX4_next_34 : decode mX4_next.2.1 34 = .ok (.istore_n 2, 1) := by decide +kernel
theorem dX4_next_35 : decode mX4_next.2.1 35 = .ok (.aload_n 0, 1) := by decide +kernel
theorem dX4_next_36 : decode mX4_next.2.1 36 = .ok (.invokevirtual 67, 3) := by decide +kernel
theorem dX4_next_39 : decode mX4_next.2.1 39 = .ok (.aload_n 0, 1) := by decide +kernel
theorem dX4_next_40 : decode mX4_next.2.1 40 = .ok (.aload_n 0, 1) := by decide +kernel
theorem dX4_next_41 : decode mX4_next.2.1 41 = .ok (.getfield 18, 3) := by decide +kernel
theorem dX4_next_44 : decode mX4_next.2.1 44 = .ok (.putfield 21, 3) := by decide +kernel
theorem dX4_next_47 : decode mX4_next.2.1 47 = .ok (.aload_n 0, 1) := by decide +kernel
theorem dX4_next_48 : decode mX4_next.2.1 48 = .ok (.getfield 18, 3) := by decide +kernel
theorem dX4_next_51 : decode mX4_next.2.1 51 = .ok (.aload_n 0, 1) := by decide +kernel
theorem dX4_next_52 : decode mX4_next.2.1 52 = .ok (.getfield 49, 3) := by decide +kernel
theorem dX4_next_55 : decode mX4_next.2.1 55 = .ok (.if_icmp .lt 11, 3) := by decide +kernel
theorem dX4_next_58 : decode mX4_next.2.1 58 = .ok (.aload_n 0, 1) := by decide +kernel
theorem dX4_next_59 : decode mX4_next.2.1 59 = .ok (.iconst 1, 1) := by decide +kernel
theorem dX4_next_60 : decode mX4_next.2.1 60 = .ok (.putfield 24, 3) := by decide +kernel
theorem dX4_next_63 : decode mX4_next.2.1 63 = .ok (.goto 141, 3) := by decide +kernel
theorem dX4_next_66 : decode mX4_next.2.1 66 = .ok (.iload_n 1, 1) := by decide +kernel
theorem dX4_next_67 : decode mX4_next.2.1 67 = .ok (.ifCond .eq 53, 3) := by decide +kernel
theorem dX4_next_70 : decode mX4_next.2.1 70 = .ok (.aload_n 0, 1) := by decide +kernel
theorem dX4_next_71 : decode mX4_next.2.1 71 = .ok (.getfield 18, 3) := by decide +kernel
theorem dX4_next_74 : decode mX4_next.2.1 74 = .ok (.iload_n 2, 1) := by decide +kernel
theorem dX4_next_75 : decode mX4_next.2.1 75 = .ok (.if_icmp .ne 45, 3) := by decide +kernel
theorem dX4_next_78 : decode mX4_next.2.1 78 = .ok (.aload_n 0, 1) := by decide +kernel
theorem dX4_next_79 : decode mX4_next.2.1 79 = .ok (.getfield 36, 3) := by decide +kernel
theorem dX4_next_82 : decode mX4_next.2.1 82 = .ok (.aload_n 0, 1) := by decide +kernel
theorem dX4_next_83 : decode mX4_next.2.1 83 = .ok (.getfield 18, 3) := by decide +kernel
theorem dX4_next_86 : decode mX4_next.2.1 86 = .ok (.baload, 1) := by decide +kernel
theorem dX4_next_87 : decode mX4_next.2.1 87 = .ok (.invokestatic 70, 3) := by decide +kernel
theorem dX4_next_90 : decode mX4_next.2.1 90 = .ok (.ifCond .ne 18, 3) := by decide +kernel
theorem dX4_next_93 : decode mX4_next.2.1 93 = .ok (.aload_n 0, 1) := by decide +kernel
theorem dX4_next_94 : decode mX4_next.2.1 94 = .ok (.getfield 36, 3) := by decide +kernel
theorem dX4_next_97 : decode mX4_next.2.1 97 = .ok (.aload_n 0, 1) := by decide +kernel
theorem dX4_next_98 : decode mX4_next.2.1 98 = .ok (.getfield 18, 3) := by decide +kernel
theorem dX4_next_101 : decode mX4_next.2.1 101 = .ok (.baload, 1) := by decide +kernel
theorem dX4_next_102 : decode mX4_next.2.1 102 = .ok (.invokestatic 74, 3) := by decide +kernel
theorem dX4_next_105 : decode mX4_next.2.1 105 = .ok (.ifCond .eq 15, 3) := by decide +kernel
theorem dX4_next_108 : decode mX4_next.2.1 108 = .ok (.aload_n 0, 1) := by decide +kernel
theorem dX4_next_109 : decode mX4_next.2.1 109 = .ok (.iconst 1, 1) := by decide +kernel
theorem dX4_next_110 : decode mX4_next.2.1 110 = .ok (.aload_n 0, 1) := by decide +kernel
theorem dX4_next_111 : decode mX4_next.2.1 111 = .ok (.getfield 18, 3) := by decide +kernel
theorem dX4_next_114 : decode mX4_next.2.1 114 = .ok (.invokevirtual 77, 3) := by decide +kernel
theorem dX4_next_117 : decode mX4_next.2.1 117 = .ok (.goto 87, 3) := by decide +kernel
theorem dX4_next_120 : decode mX4_next.2.1 120 = .ok (.aload_n 0, 1) := by decide +kernel
theorem dX4_next_121 : decode mX4_next.2.1 121 = .ok (.getfield 36, 3) := by decide +kernel
theorem dX4_next_124 : decode mX4_next.2.1 124 = .ok (.aload_n 0, 1) := by decide +kernel
theorem dX4_next_125 : decode mX4_next.2.1 125 = .ok (.getfield 18, 3) := by decide +kernel
theorem dX4_next_128 : decode mX4_next.2.1 128 = .ok (.baload, 1) := by decide +kernel
theorem dX4_next_129 : decode mX4_next.2.1 129 = .ok (.invokestatic 70, 3) := by decide +kernel
theorem dX4_next_132 : decode mX4_next.2.1 132 = .ok (.ifCond .eq 18, 3) := by decide +kernel
theorem dX4_next_135 : decode mX4_next.2.1 135 = .ok (.aload_n 0, 1) := by decide +kernel
theorem dX4_next_136 : decode mX4_next.2.1 136 = .ok (.invokevirtual 81, 3) := by decide +kernel
theorem dX4_next_139 : decode mX4_next.2.1 139 = .ok (.aload_n 0, 1) := by decide +kernel
theorem dX4_next_140 : decode mX4_next.2.1 140 = .ok (.aload_n 0, 1) := by decide +kernel
theorem dX4_next_141 : decode mX4_next.2.1 141 = .ok (.invokevirtual 84, 3) := by decide +kernel
theorem dX4_next_144 : decode mX4_next.2.1 144 = .ok (.putfield 30, 3) := by decide +kernel
theorem dX4_next_147 : decode mX4_next.2.1 147 = .ok (.goto 57, 3) := by decide +kernel
theorem dX4_next_150 : decode mX4_next.2.1 150 = .ok (.aload_n 0, 1) := by decide +kernel
theorem dX4_next_151 : decode mX4_next.2.1 151 = .ok (.getfield 36, 3) := by decide +kernel
theorem dX4_next_154 : decode mX4_next.2.1 154 = .ok (.aload_n 0, 1) := by decide +kernel
theorem dX4_next_155 : decode mX4_next.2.1 155 = .ok (.getfield 18, 3) := by decide +kernel
theorem dX4_next_158 : decode mX4_next.2.1 158 = .ok (.baload, 1) := by decide +kernel
theorem dX4_next_159 : decode mX4_next.2.1 159 = .ok (.invokestatic 74, 3) := by decide +kernel
theorem dX4_next_162 : decode mX4_next.2.1 162 = .ok (.ifCond .eq 10, 3) := by decide +kernel
theorem dX4_next_165 : decode mX4_next.2.1 165 = .ok (.aload_n 0, 1) := by decide +kernel
theorem dX4_next_166 : decode mX4_next.2.1 166 = .ok (.invokevirtual 88, 3) := by decide +kernel
theorem dX4_next_169 : decode mX4_next.2.1 169 = .ok (.goto 35, 3) := by decide +kernel
theorem dX4_next_172 : decode mX4_next.2.1 172 = .ok (.aload_n 0, 1) := by decide +kernel
theorem dX4_next_173 : decode mX4_next.2.1 173 = .ok (.iconst 4, 1) := by decide +kernel
theorem dX4_next_174 : decode mX4_next.2.1 174 = .ok (.putfield 24, 3) := by decide +kernel
theorem dX4_next_177 : decode mX4_next.2.1 177 = .ok (.aload_n 0, 1) := by decide +kernel
theorem dX4_next_178 : decode mX4_next.2.1 178 = .ok (.aload_n 0, 1) := by decide +kernel
theorem dX4_next_179 : decode mX4_next.2.1 179 = .ok (.getfield 36, 3) := by decide +kernel
theorem dX4_next_182 : decode mX4_next.2.1 182 = .ok (.aload_n 0, 1) := by decide +kernel
theorem dX4_next_183 : decode mX4_next.2.1 183 = .ok (.getfield 18, 3) := by decide +kernel
theorem dX4_next_186 : decode mX4_next.2.1 186 = .ok (.baload, 1) := by decide +kernel
theorem dX4_next_187 : decode mX4_next.2.1 187 = .ok (.sipush 255, 3) := by decide +kernel
theorem dX4_next_190 : decode mX4_next.2.1 190 = .ok (.iand, 1) := by decide +kernel
theorem dX4_next_191 : decode mX4_next.2.1 191 = .ok (.putfield 27, 3) := by decide +kernel
theorem dX4_next_194 : decode mX4_next.2.1 194 = .ok (.aload_n 0, 1) := by decide +kernel
theorem dX4_next_195 : decode mX4_next.2.1 195 = .ok (.dup, 1) := by decide +kernel
theorem dX4_next_196 : decode mX4_next.2.1 196 = .ok (.getfield 18, 3) := by decide +kernel
theorem dX4_next_199 : decode mX4_next.2.1 199 = .ok (.iconst 1, 1) := by decide +kernel
theorem dX4_next_200 : decode mX4_next.2.1 200 = .ok (.iadd, 1) := by decide +kernel
theorem dX4_next_201 : decode mX4_next.2.1 201 = .ok (.putfield 18, 3) := by decide +kernel
theorem dX4_next_204 : decode mX4_next.2.1 204 = .ok (.return_, 1) := by decide +kernel
abbrev mX4_skipBlanks : aM := (yX4_skipBlanks, cX4_skipBlanks, 1, none)
theorem dX4_skipBlanks_0 : decode mX4_skipBlanks.2.1 0 = .ok (.aload_n 0, 1) := by decide +kernel
theorem dX4_skipBlanks_1 : decode mX4_skipBlanks.2.1 1 = .ok (.getfield 18, 3) := by decide +kernel
theorem dX4_skipBlanks_4 : decode mX4_skipBlanks.2.1 4 = .ok (.aload_n 0, 1) := by decide +kernel
theorem dX4_skipBlanks_5 : decode mX4_skipBlanks.2.1 5 = .ok (.getfield 49, 3) := by decide +kernel
theorem dX4_skipBlanks_8 : decode mX4_skipBlanks.2.1 8 = .ok (.if_icmp .ge 44, 3) := by decide +kernel
theorem dX4_skipBlanks_11 : decode mX4_skipBlanks.2.1 11 = .ok (.aload_n 0, 1) := by decide +kernel
theorem dX4_skipBlanks_12 : decode mX4_skipBlanks.2.1 12 = .ok (.getfield 36, 3) := by decide +kernel
theorem dX4_skipBlanks_15 : decode mX4_skipBlanks.2.1 15 = .ok (.aload_n 0, 1) := by decide +kernel
theorem dX4_skipBlanks_16 : decode mX4_skipBlanks.2.1 16 = .ok (.getfield 18, 3) := by decide +kernel
theorem dX4_skipBlanks_19 : decode mX4_skipBlanks.2.1 19 = .ok (.baload, 1) := by decide +kernel
theorem dX4_skipBlanks_20 : decode mX4_skipBlanks.2.1 20 = .ok (.bipush 10, 2) := by decide +kernel
theorem dX4_skipBlanks_22 : decode mX4_skipBlanks.2.1 22 = .ok (.if_icmp .eq 17, 3) := by decide +kernel
theorem dX4_skipBlanks_25 : decode mX4_skipBlanks.2.1 25 = .ok (.aload_n 0, 1) := by decide +kernel
theorem dX4_skipBlanks_26 : decode mX4_skipBlanks.2.1 26 = .ok (.getfield 36, 3) := by decide +kernel
theorem dX4_skipBlanks_29 : decode mX4_skipBlanks.2.1 29 = .ok (.aload_n 0, 1) := by decide +kernel
theorem dX4_skipBlanks_30 : decode mX4_skipBlanks.2.1 30 = .ok (.getfield 18, 3) := by decide +kernel
theorem dX4_skipBlanks_33 : decode mX4_skipBlanks.2.1 33 = .ok (.baload, 1) := by decide +kernel
theorem dX4_skipBlanks_34 : decode mX4_skipBlanks.2.1 34 = .ok (.bipush 32, 2) := by decide +kernel
theorem dX4_skipBlanks_36 : decode mX4_skipBlanks.2.1 36 = .ok (.if_icmp .ne 16, 3) := by decide +kernel
theorem dX4_skipBlanks_39 : decode mX4_skipBlanks.2.1 39 = .ok (.aload_n 0, 1) := by decide +kernel
theorem dX4_skipBlanks_40 : decode mX4_skipBlanks.2.1 40 = .ok (.dup, 1) := by decide +kernel
theorem dX4_skipBlanks_41 : decode mX4_skipBlanks.2.1 41 = .ok (.getfield 18, 3) := by decide +kernel
theorem dX4_skipBlanks_44 : decode mX4_skipBlanks.2.1 44 = .ok (.iconst 1, 1) := by decide +kernel
theorem dX4_skipBlanks_45 : decode mX4_skipBlanks.2.1 45 = .ok (.iadd, 1) := by decide +kernel
theorem dX4_skipBlanks_46 : decode mX4_skipBlanks.2.1 46 = .ok (.putfield 18, 3) := by decide +kernel
theorem dX4_skipBlanks_49 : decode mX4_skipBlanks.2.1 49 = .ok (.goto (-49), 3) := by decide +kernel
theorem dX4_skipBlanks_52 : decode mX4_skipBlanks.2.1 52 = .ok (.return_, 1) := by decide +kernel
abbrev mX4_isLetter : aM := (yX4_isLetter, cX4_isLetter, 1, (some .boolean))
theorem dX4_isLetter_0 : decode mX4_isLetter.2.1 0 = .ok (.iload_n 0, 1) := by decide +kernel
theorem dX4_isLetter_1 : decode mX4_isLetter.2.1 1 = .ok (.bipush 97, 2) := by decide +kernel
theorem dX4_isLetter_3 : decode mX4_isLetter.2.1 3 = .ok (.if_icmp .lt 13, 3) := by decide +kernel
theorem dX4_isLetter_6 : decode mX4_isLetter.2.1 6 = .ok (.iload_n 0, 1) := by decide +kernel
theorem dX4_isLetter_7 : decode mX4_isLetter.2.1 7 = .ok (.bipush 122, 2) := by decide +kernel
theorem dX4_isLetter_9 : decode mX4_isLetter.2.1 9 = .ok (.if_icmp .gt 7, 3) := by decide +kernel
theorem dX4_isLetter_12 : decode mX4_isLetter.2.1 12 = .ok (.iconst 1, 1) := by decide +kernel
theorem dX4_isLetter_13 : decode mX4_isLetter.2.1 13 = .ok (.goto 4, 3) := by decide +kernel
theorem dX4_isLetter_16 : decode mX4_isLetter.2.1 16 = .ok (.iconst 0, 1) := by decide +kernel
theorem dX4_isLetter_17 : decode mX4_isLetter.2.1 17 = .ok (.ireturn, 1) := by decide +kernel
abbrev mX4_isDigit : aM := (yX4_isDigit, cX4_isDigit, 1, (some .boolean))
theorem dX4_isDigit_0 : decode mX4_isDigit.2.1 0 = .ok (.iload_n 0, 1) := by decide +kernel
theorem dX4_isDigit_1 : decode mX4_isDigit.2.1 1 = .ok (.bipush 48, 2) := by decide +kernel
theorem dX4_isDigit_3 : decode mX4_isDigit.2.1 3 = .ok (.if_icmp .lt 13, 3) := by decide +kernel
theorem dX4_isDigit_6 : decode mX4_isDigit.2.1 6 = .ok (.iload_n 0, 1) := by decide +kernel
theorem dX4_isDigit_7 : decode mX4_isDigit.2.1 7 = .ok (.bipush 57, 2) := by decide +kernel
theorem dX4_isDigit_9 : decode mX4_isDigit.2.1 9 = .ok (.if_icmp .gt 7, 3) := by decide +kernel
theorem dX4_isDigit_12 : decode mX4_isDigit.2.1 12 = .ok (.iconst 1, 1) := by decide +kernel
theorem dX4_isDigit_13 : decode mX4_isDigit.2.1 13 = .ok (.goto 4, 3) := by decide +kernel
theorem dX4_isDigit_16 : decode mX4_isDigit.2.1 16 = .ok (.iconst 0, 1) := by decide +kernel
theorem dX4_isDigit_17 : decode mX4_isDigit.2.1 17 = .ok (.ireturn, 1) := by decide +kernel
abbrev mX4_takeWord : aM := (yX4_takeWord, cX4_takeWord, 3, none)
theorem dX4_takeWord_0 : decode mX4_takeWord.2.1 0 = .ok (.aload_n 0, 1) := by decide +kernel
theorem dX4_takeWord_1 : decode mX4_takeWord.2.1 1 = .ok (.iconst 2, 1) := by decide +kernel
theorem dX4_takeWord_2 : decode mX4_takeWord.2.1 2 = .ok (.putfield 24, 3) := by decide +kernel
theorem dX4_takeWord_5 : decode mX4_takeWord.2.1 5 = .ok (.aload_n 0, 1) := by decide +kernel
theorem dX4_takeWord_6 : decode mX4_takeWord.2.1 6 = .ok (.iconst 0, 1) := by decide +kernel
theorem dX4_takeWord_7 : decode mX4_takeWord.2.1 7 = .ok (.putfield 27, 3) := by decide +kernel
theorem dX4_takeWord_10 : decode mX4_takeWord.2.1 10 = .ok (.iconst 0, 1) := by decide +kernel
theorem dX4_takeWord_11 : decode mX4_takeWord.2.1 11 = .ok (.istore_n 1, 1) := by decide +kernel
theorem dX4_takeWord_12 : decode mX4_takeWord.2.1 12 = .ok (.iload_n 1, 1) := by decide +kernel
theorem dX4_takeWord_13 : decode mX4_takeWord.2.1 13 = .ok (.bipush 6, 2) := by decide +kernel
theorem dX4_takeWord_15 : decode mX4_takeWord.2.1 15 = .ok (.if_icmp .ge 92, 3) := by decide +kernel
theorem dX4_takeWord_18 : decode mX4_takeWord.2.1 18 = .ok (.aload_n 0, 1) := by decide +kernel
theorem dX4_takeWord_19 : decode mX4_takeWord.2.1 19 = .ok (.getfield 18, 3) := by decide +kernel
theorem dX4_takeWord_22 : decode mX4_takeWord.2.1 22 = .ok (.aload_n 0, 1) := by decide +kernel
theorem dX4_takeWord_23 : decode mX4_takeWord.2.1 23 = .ok (.getfield 49, 3) := by decide +kernel
theorem dX4_takeWord_26 : decode mX4_takeWord.2.1 26 = .ok (.if_icmp .ge 22, 3) := by decide +kernel
theorem dX4_takeWord_29 : decode mX4_takeWord.2.1 29 = .ok (.aload_n 0, 1) := by decide +kernel
theorem dX4_takeWord_30 : decode mX4_takeWord.2.1 30 = .ok (.getfield 36, 3) := by decide +kernel
theorem dX4_takeWord_33 : decode mX4_takeWord.2.1 33 = .ok (.aload_n 0, 1) := by decide +kernel
theorem dX4_takeWord_34 : decode mX4_takeWord.2.1 34 = .ok (.getfield 18, 3) := by decide +kernel
theorem dX4_takeWord_37 : decode mX4_takeWord.2.1 37 = .ok (.baload, 1) := by decide +kernel
theorem dX4_takeWord_38 : decode mX4_takeWord.2.1 38 = .ok (.invokestatic 70, 3) := by decide +kernel
theorem dX4_takeWord_41 : decode mX4_takeWord.2.1 41 = .ok (.ifCond .eq 7, 3) := by decide +kernel
theorem dX4_takeWord_44 : decode mX4_takeWord.2.1 44 = .ok (.iconst 1, 1) := by decide +kernel
theorem dX4_takeWord_45 : decode mX4_takeWord.2.1 45 = .ok (.goto 4, 3) := by decide +kernel
theorem dX4_takeWord_48 : decode mX4_takeWord.2.1 48 = .ok (.iconst 0, 1) := by decide +kernel
theorem dX4_takeWord_49 : decode mX4_takeWord.2.1 49 = .ok (.istore_n 2, 1) := by decide +kernel
theorem dX4_takeWord_50 : decode mX4_takeWord.2.1 50 = .ok (.aload_n 0, 1) := by decide +kernel
theorem dX4_takeWord_51 : decode mX4_takeWord.2.1 51 = .ok (.aload_n 0, 1) := by decide +kernel
theorem dX4_takeWord_52 : decode mX4_takeWord.2.1 52 = .ok (.getfield 27, 3) := by decide +kernel
theorem dX4_takeWord_55 : decode mX4_takeWord.2.1 55 = .ok (.iconst 5, 1) := by decide +kernel
theorem dX4_takeWord_56 : decode mX4_takeWord.2.1 56 = .ok (.ishl, 1) := by decide +kernel
theorem dX4_takeWord_57 : decode mX4_takeWord.2.1 57 = .ok (.iload_n 2, 1) := by decide +kernel
theorem dX4_takeWord_58 : decode mX4_takeWord.2.1 58 = .ok (.ifCond .eq 20, 3) := by decide +kernel
theorem dX4_takeWord_61 : decode mX4_takeWord.2.1 61 = .ok (.aload_n 0, 1) := by decide +kernel
theorem dX4_takeWord_62 : decode mX4_takeWord.2.1 62 = .ok (.getfield 36, 3) := by decide +kernel
theorem dX4_takeWord_65 : decode mX4_takeWord.2.1 65 = .ok (.aload_n 0, 1) := by decide +kernel
theorem dX4_takeWord_66 : decode mX4_takeWord.2.1 66 = .ok (.getfield 18, 3) := by decide +kernel
theorem dX4_takeWord_69 : decode mX4_takeWord.2.1 69 = .ok (.baload, 1) := by decide +kernel
theorem dX4_takeWord_70 : decode mX4_takeWord.2.1 70 = .ok (.bipush 97, 2) := by decide +kernel
theorem dX4_takeWord_72 : decode mX4_takeWord.2.1 72 = .ok (.isub, 1) := by decide +kernel
theorem dX4_takeWord_73 : decode mX4_takeWord.2.1 73 = .ok (.iconst 1, 1) := by decide +kernel
theorem dX4_takeWord_74 : decode mX4_takeWord.2.1 74 = .ok (.iadd, 1) := by decide +kernel
theorem dX4_takeWord_75 : decode mX4_takeWord.2.1 75 = .ok (.goto 4, 3) := by decide +kernel
theorem dX4_takeWord_78 : decode mX4_takeWord.2.1 78 = .ok (.iconst 0, 1) := by decide +kernel
theorem dX4_takeWord_79 : decode mX4_takeWord.2.1 79 = .ok (.ior, 1) := by decide +kernel
theorem dX4_takeWord_80 : decode mX4_takeWord.2.1 80 = .ok (.putfield 27, 3) := by decide +kernel
theorem dX4_takeWord_83 : decode mX4_takeWord.2.1 83 = .ok (.aload_n 0, 1) := by decide +kernel
theorem dX4_takeWord_84 : decode mX4_takeWord.2.1 84 = .ok (.dup, 1) := by decide +kernel
theorem dX4_takeWord_85 : decode mX4_takeWord.2.1 85 = .ok (.getfield 18, 3) := by decide +kernel
theorem dX4_takeWord_88 : decode mX4_takeWord.2.1 88 = .ok (.iload_n 2, 1) := by decide +kernel
theorem dX4_takeWord_89 : decode mX4_takeWord.2.1 89 = .ok (.ifCond .eq 7, 3) := by decide +kernel
theorem dX4_takeWord_92 : decode mX4_takeWord.2.1 92 = .ok (.iconst 1, 1) := by decide +kernel
theorem dX4_takeWord_93 : decode mX4_takeWord.2.1 93 = .ok (.goto 4, 3) := by decide +kernel
theorem dX4_takeWord_96 : decode mX4_takeWord.2.1 96 = .ok (.iconst 0, 1) := by decide +kernel
theorem dX4_takeWord_97 : decode mX4_takeWord.2.1 97 = .ok (.iadd, 1) := by decide +kernel
theorem dX4_takeWord_98 : decode mX4_takeWord.2.1 98 = .ok (.putfield 18, 3) := by decide +kernel
theorem dX4_takeWord_101 : decode mX4_takeWord.2.1 101 = .ok (.iinc 1 1, 3) := by decide +kernel
theorem dX4_takeWord_104 : decode mX4_takeWord.2.1 104 = .ok (.goto (-92), 3) := by decide +kernel
theorem dX4_takeWord_107 : decode mX4_takeWord.2.1 107 = .ok (.aload_n 0, 1) := by decide +kernel
theorem dX4_takeWord_108 : decode mX4_takeWord.2.1 108 = .ok (.getfield 18, 3) := by decide +kernel
theorem dX4_takeWord_111 : decode mX4_takeWord.2.1 111 = .ok (.aload_n 0, 1) := by decide +kernel
theorem dX4_takeWord_112 : decode mX4_takeWord.2.1 112 = .ok (.getfield 49, 3) := by decide +kernel
theorem dX4_takeWord_115 : decode mX4_takeWord.2.1 115 = .ok (.if_icmp .ge 27, 3) := by decide +kernel
theorem dX4_takeWord_118 : decode mX4_takeWord.2.1 118 = .ok (.aload_n 0, 1) := by decide +kernel
theorem dX4_takeWord_119 : decode mX4_takeWord.2.1 119 = .ok (.getfield 36, 3) := by decide +kernel
theorem dX4_takeWord_122 : decode mX4_takeWord.2.1 122 = .ok (.aload_n 0, 1) := by decide +kernel
theorem dX4_takeWord_123 : decode mX4_takeWord.2.1 123 = .ok (.getfield 18, 3) := by decide +kernel
theorem dX4_takeWord_126 : decode mX4_takeWord.2.1 126 = .ok (.baload, 1) := by decide +kernel
theorem dX4_takeWord_127 : decode mX4_takeWord.2.1 127 = .ok (.invokestatic 70, 3) := by decide +kernel
theorem dX4_takeWord_130 : decode mX4_takeWord.2.1 130 = .ok (.ifCond .eq 12, 3) := by decide +kernel
theorem dX4_takeWord_133 : decode mX4_takeWord.2.1 133 = .ok (.aload_n 0, 1) := by decide +kernel
theorem dX4_takeWord_134 : decode mX4_takeWord.2.1 134 = .ok (.iconst 1, 1) := by decide +kernel
theorem dX4_takeWord_135 : decode mX4_takeWord.2.1 135 = .ok (.aload_n 0, 1) := by decide +kernel
theorem dX4_takeWord_136 : decode mX4_takeWord.2.1 136 = .ok (.getfield 18, 3) := by decide +kernel
theorem dX4_takeWord_139 : decode mX4_takeWord.2.1 139 = .ok (.invokevirtual 77, 3) := by decide +kernel
theorem dX4_takeWord_142 : decode mX4_takeWord.2.1 142 = .ok (.return_, 1) := by decide +kernel
abbrev mX4_findOwn : aM := (yX4_findOwn, cX4_findOwn, 5, (some .int))
theorem dX4_findOwn_0 : decode mX4_findOwn.2.1 0 = .ok (.iconst 0, 1) := by decide +kernel
theorem dX4_findOwn_1 : decode mX4_findOwn.2.1 1 = .ok (.istore_n 1, 1) := by decide +kernel
theorem dX4_findOwn_2 : decode mX4_findOwn.2.1 2 = .ok (.iconst 0, 1) := by decide +kernel
theorem dX4_findOwn_3 : decode mX4_findOwn.2.1 3 = .ok (.istore_n 2, 1) := by decide +kernel
theorem dX4_findOwn_4 : decode mX4_findOwn.2.1 4 = .ok (.iload_n 2, 1) := by decide +kernel
theorem dX4_findOwn_5 : decode mX4_findOwn.2.1 5 = .ok (.ldc 91, 2) := by decide +kernel
theorem dX4_findOwn_7 : decode mX4_findOwn.2.1 7 = .ok (.invokevirtual 93, 3) := by decide +kernel
theorem dX4_findOwn_10 : decode mX4_findOwn.2.1 10 = .ok (.if_icmp .ge 73, 3) := by decide +kernel
theorem dX4_findOwn_13 : decode mX4_findOwn.2.1 13 = .ok (.ldc 91, 2) := by decide +kernel
theorem dX4_findOwn_15 : decode mX4_findOwn.2.1 15 = .ok (.iload_n 2, 1) := by decide +kernel
theorem dX4_findOwn_16 : decode mX4_findOwn.2.1 16 = .ok (.invokevirtual 98, 3) := by decide +kernel
theorem dX4_findOwn_19 : decode mX4_findOwn.2.1 19 = .ok (.istore_n 3, 1) := by decide +kernel
theorem dX4_findOwn_20 : decode mX4_findOwn.2.1 20 = .ok (.iload_n 2, 1) := by decide +kernel
theorem dX4_findOwn_21 : decode mX4_findOwn.2.1 21 = .ok (.bipush 6, 2) := by decide +kernel
theorem dX4_findOwn_23 : decode mX4_findOwn.2.1 23 = .ok (.irem, 1) := by decide +kernel
theorem dX4_findOwn_24 : decode mX4_findOwn.2.1 24 = .ok (.ifCond .ne 7, 3) := by decide +kernel
theorem dX4_findOwn_27 : decode mX4_findOwn.2.1 27 = .ok (.iconst 0, 1) := by decide +kernel
theorem dX4_findOwn_28 : decode mX4_findOwn.2.1 28 = .ok (.goto 6, 3) := by decide +kernel
theorem dX4_findOwn_31 : decode mX4_findOwn.2.1 31 = .ok (.iload_n 1, 1) := by decide +kernel
theorem dX4_findOwn_32 : decode mX4_findOwn.2.1 32 = .ok (.iconst 5, 1) := by decide +kernel
theorem dX4_findOwn_33 : decode mX4_findOwn.2.1 33 = .ok (.ishl, 1) := by decide +kernel
theorem dX4_findOwn_34 : decode mX4_findOwn.2.1 34 = .ok (.istore 4, 2) := by decide +kernel
theorem dX4_findOwn_36 : decode mX4_findOwn.2.1 36 = .ok (.iload 4, 2) := by decide +kernel
theorem dX4_findOwn_38 : decode mX4_findOwn.2.1 38 = .ok (.iload_n 3, 1) := by decide +kernel
theorem dX4_findOwn_39 : decode mX4_findOwn.2.1 39 = .ok (.bipush 32, 2) := by decide +kernel
theorem dX4_findOwn_41 : decode mX4_findOwn.2.1 41 = .ok (.if_icmp .ne 7, 3) := by decide +kernel
theorem dX4_findOwn_44 : decode mX4_findOwn.2.1 44 = .ok (.iconst 0, 1) := by decide +kernel
theorem dX4_findOwn_45 : decode mX4_findOwn.2.1 45 = .ok (.goto 9, 3) := by decide +kernel
theorem dX4_findOwn_48 : decode mX4_findOwn.2.1 48 = .ok (.iload_n 3, 1) := by decide +kernel
theorem dX4_findOwn_49 : decode mX4_findOwn.2.1 49 = .ok (.bipush 97, 2) := by decide +kernel
theorem dX4_findOwn_51 : decode mX4_findOwn.2.1 51 = .ok (.isub, 1) := by decide +kernel
theorem dX4_findOwn_52 : decode mX4_findOwn.2.1 52 = .ok (.iconst 1, 1) := by decide +kernel
theorem dX4_findOwn_53 : decode mX4_findOwn.2.1 53 = .ok (.iadd, 1) := by decide +kernel
theorem dX4_findOwn_54 : decode mX4_findOwn.2.1 54 = .ok (.ior, 1) := by decide +kernel
theorem dX4_findOwn_55 : decode mX4_findOwn.2.1 55 = .ok (.istore_n 1, 1) := by decide +kernel
theorem dX4_findOwn_56 : decode mX4_findOwn.2.1 56 = .ok (.iload_n 2, 1) := by decide +kernel
theorem dX4_findOwn_57 : decode mX4_findOwn.2.1 57 = .ok (.bipush 6, 2) := by decide +kernel
theorem dX4_findOwn_59 : decode mX4_findOwn.2.1 59 = .ok (.irem, 1) := by decide +kernel
theorem dX4_findOwn_60 : decode mX4_findOwn.2.1 60 = .ok (.iconst 5, 1) := by decide +kernel
theorem dX4_findOwn_61 : decode mX4_findOwn.2.1 61 = .ok (.if_icmp .ne 16, 3) := by decide +kernel
theorem dX4_findOwn_64 : decode mX4_findOwn.2.1 64 = .ok (.iload_n 1, 1) := by decide +kernel
theorem dX4_findOwn_65 : decode mX4_findOwn.2.1 65 = .ok (.aload_n 0, 1) := by decide +kernel
theorem dX4_findOwn_66 : decode mX4_findOwn.2.1 66 = .ok (.getfield 27, 3) := by decide +kernel
theorem dX4_findOwn_69 : decode mX4_findOwn.2.1 69 = .ok (.if_icmp .ne 8, 3) := by decide +kernel
theorem dX4_findOwn_72 : decode mX4_findOwn.2.1 72 = .ok (.iload_n 2, 1) := by decide +kernel
theorem dX4_findOwn_73 : decode mX4_findOwn.2.1 73 = .ok (.bipush 6, 2) := by decide +kernel
theorem dX4_findOwn_75 : decode mX4_findOwn.2.1 75 = .ok (.idiv, 1) := by decide +kernel
theorem dX4_findOwn_76 : decode mX4_findOwn.2.1 76 = .ok (.ireturn, 1) := by decide +kernel
theorem dX4_findOwn_77 : decode mX4_findOwn.2.1 77 = .ok (.iinc 2 1, 3) := by decide +kernel
theorem dX4_findOwn_80 : decode mX4_findOwn.2.1 80 = .ok (.goto (-76), 3) := by decide +kernel
theorem dX4_findOwn_83 : decode mX4_findOwn.2.1 83 = .ok (.iconst (-1), 1) := by decide +kernel
theorem dX4_findOwn_84 : decode mX4_findOwn.2.1 84 = .ok (.ireturn, 1) := by decide +kernel
abbrev mX4_takeNumber : aM := (yX4_takeNumber, cX4_takeNumber, 2, none)
theorem dX4_takeNumber_0 : decode mX4_takeNumber.2.1 0 = .ok (.aload_n 0, 1) := by decide +kernel
theorem dX4_takeNumber_1 : decode mX4_takeNumber.2.1 1 = .ok (.iconst 3, 1) := by decide +kernel
theorem dX4_takeNumber_2 : decode mX4_takeNumber.2.1 2 = .ok (.putfield 24, 3) := by decide +kernel
theorem dX4_takeNumber_5 : decode mX4_takeNumber.2.1 5 = .ok (.aload_n 0, 1) := by decide +kernel
theorem dX4_takeNumber_6 : decode mX4_takeNumber.2.1 6 = .ok (.iconst 0, 1) := by decide +kernel
theorem dX4_takeNumber_7 : decode mX4_takeNumber.2.1 7 = .ok (.putfield 27, 3) := by decide +kernel
theorem dX4_takeNumber_10 : decode mX4_takeNumber.2.1 10 = .ok (.iconst 0, 1) := by decide +kernel
theorem dX4_takeNumber_11 : decode mX4_takeNumber.2.1 11 = .ok (.istore_n 1, 1) := by decide +kernel
theorem dX4_takeNumber_12 : decode mX4_takeNumber.2.1 12 = .ok (.iload_n 1, 1) := by decide +kernel
theorem dX4_takeNumber_13 : decode mX4_takeNumber.2.1 13 = .ok (.iconst 4, 1) := by decide +kernel
theorem dX4_takeNumber_14 : decode mX4_takeNumber.2.1 14 = .ok (.if_icmp .ge 69, 3) := by decide +kernel
theorem dX4_takeNumber_17 : decode mX4_takeNumber.2.1 17 = .ok (.aload_n 0, 1) := by decide +kernel
theorem dX4_takeNumber_18 : decode mX4_takeNumber.2.1 18 = .ok (.getfield 18, 3) := by decide +kernel
theorem dX4_takeNumber_21 : decode mX4_takeNumber.2.1 21 = .ok (.aload_n 0, 1) := by decide +kernel
theorem dX4_takeNumber_22 : decode mX4_takeNumber.2.1 22 = .ok (.getfield 49, 3) := by decide +kernel
theorem dX4_takeNumber_25 : decode mX4_takeNumber.2.1 25 = .ok (.if_icmp .ge 58, 3) := by decide +kernel
theorem dX4_takeNumber_28 : decode mX4_takeNumber.2.1 28 = .ok (.aload_n 0, 1) := by decide +kernel
theorem dX4_takeNumber_29 : decode mX4_takeNumber.2.1 29 = .ok (.getfield 36, 3) := by decide +kernel
theorem dX4_takeNumber_32 : decode mX4_takeNumber.2.1 32 = .ok (.aload_n 0, 1) := by decide +kernel
theorem dX4_takeNumber_33 : decode mX4_takeNumber.2.1 33 = .ok (.getfield 18, 3) := by decide +kernel
theorem dX4_takeNumber_36 : decode mX4_takeNumber.2.1 36 = .ok (.baload, 1) := by decide +kernel
theorem dX4_takeNumber_37 : decode mX4_takeNumber.2.1 37 = .ok (.invokestatic 74, 3) := by decide +kernel
theorem dX4_takeNumber_40 : decode mX4_takeNumber.2.1 40 = .ok (.ifCond .eq 43, 3) := by decide +kernel
theorem dX4_takeNumber_43 : decode mX4_takeNumber.2.1 43 = .ok (.aload_n 0, 1) := by decide +kernel
theorem dX4_takeNumber_44 : decode mX4_takeNumber.2.1 44 = .ok (.bipush 10, 2) := by decide +kernel
theorem dX4_takeNumber_46 : decode mX4_takeNumber.2.1 46 = .ok (.aload_n 0, 1) := by decide +kernel
theorem dX4_takeNumber_47 : decode mX4_takeNumber.2.1 47 = .ok (.getfield 27, 3) := by decide +kernel
theorem dX4_takeNumber_50 : decode mX4_takeNumber.2.1 50 = .ok (.imul, 1) := by decide +kernel
theorem dX4_takeNumber_51 : decode mX4_takeNumber.2.1 51 = .ok (.aload_n 0, 1) := by decide +kernel
theorem dX4_takeNumber_52 : decode mX4_takeNumber.2.1 52 = .ok (.getfield 36, 3) := by decide +kernel
theorem dX4_takeNumber_55 : decode mX4_takeNumber.2.1 55 = .ok (.aload_n 0, 1) := by decide +kernel
theorem dX4_takeNumber_56 : decode mX4_takeNumber.2.1 56 = .ok (.getfield 18, 3) := by decide +kernel
theorem dX4_takeNumber_59 : decode mX4_takeNumber.2.1 59 = .ok (.baload, 1) := by decide +kernel
theorem dX4_takeNumber_60 : decode mX4_takeNumber.2.1 60 = .ok (.iadd, 1) := by decide +kernel
theorem dX4_takeNumber_61 : decode mX4_takeNumber.2.1 61 = .ok (.bipush 48, 2) := by decide +kernel
theorem dX4_takeNumber_63 : decode mX4_takeNumber.2.1 63 = .ok (.isub, 1) := by decide +kernel
theorem dX4_takeNumber_64 : decode mX4_takeNumber.2.1 64 = .ok (.putfield 27, 3) := by decide +kernel
theorem dX4_takeNumber_67 : decode mX4_takeNumber.2.1 67 = .ok (.aload_n 0, 1) := by decide +kernel
theorem dX4_takeNumber_68 : decode mX4_takeNumber.2.1 68 = .ok (.dup, 1) := by decide +kernel
theorem dX4_takeNumber_69 : decode mX4_takeNumber.2.1 69 = .ok (.getfield 18, 3) := by decide +kernel
theorem dX4_takeNumber_72 : decode mX4_takeNumber.2.1 72 = .ok (.iconst 1, 1) := by decide +kernel
theorem dX4_takeNumber_73 : decode mX4_takeNumber.2.1 73 = .ok (.iadd, 1) := by decide +kernel
theorem dX4_takeNumber_74 : decode mX4_takeNumber.2.1 74 = .ok (.putfield 18, 3) := by decide +kernel
theorem dX4_takeNumber_77 : decode mX4_takeNumber.2.1 77 = .ok (.iinc 1 1, 3) := by decide +kernel
theorem dX4_takeNumber_80 : decode mX4_takeNumber.2.1 80 = .ok (.goto (-68), 3) := by decide +kernel
theorem dX4_takeNumber_83 : decode mX4_takeNumber.2.1 83 = .ok (.aload_n 0, 1) := by decide +kernel
theorem dX4_takeNumber_84 : decode mX4_takeNumber.2.1 84 = .ok (.getfield 18, 3) := by decide +kernel
theorem dX4_takeNumber_87 : decode mX4_takeNumber.2.1 87 = .ok (.aload_n 0, 1) := by decide +kernel
theorem dX4_takeNumber_88 : decode mX4_takeNumber.2.1 88 = .ok (.getfield 49, 3) := by decide +kernel
theorem dX4_takeNumber_91 : decode mX4_takeNumber.2.1 91 = .ok (.if_icmp .ge 27, 3) := by decide +kernel
theorem dX4_takeNumber_94 : decode mX4_takeNumber.2.1 94 = .ok (.aload_n 0, 1) := by decide +kernel
theorem dX4_takeNumber_95 : decode mX4_takeNumber.2.1 95 = .ok (.getfield 36, 3) := by decide +kernel
theorem dX4_takeNumber_98 : decode mX4_takeNumber.2.1 98 = .ok (.aload_n 0, 1) := by decide +kernel
theorem dX4_takeNumber_99 : decode mX4_takeNumber.2.1 99 = .ok (.getfield 18, 3) := by decide +kernel
theorem dX4_takeNumber_102 : decode mX4_takeNumber.2.1 102 = .ok (.baload, 1) := by decide +kernel
theorem dX4_takeNumber_103 : decode mX4_takeNumber.2.1 103 = .ok (.invokestatic 74, 3) := by decide +kernel
theorem dX4_takeNumber_106 : decode mX4_takeNumber.2.1 106 = .ok (.ifCond .eq 12, 3) := by decide +kernel
theorem dX4_takeNumber_109 : decode mX4_takeNumber.2.1 109 = .ok (.aload_n 0, 1) := by decide +kernel
theorem dX4_takeNumber_110 : decode mX4_takeNumber.2.1 110 = .ok (.iconst 1, 1) := by decide +kernel
theorem dX4_takeNumber_111 : decode mX4_takeNumber.2.1 111 = .ok (.aload_n 0, 1) := by decide +kernel
theorem dX4_takeNumber_112 : decode mX4_takeNumber.2.1 112 = .ok (.getfield 18, 3) := by decide +kernel
theorem dX4_takeNumber_115 : decode mX4_takeNumber.2.1 115 = .ok (.invokevirtual 77, 3) := by decide +kernel
theorem dX4_takeNumber_118 : decode mX4_takeNumber.2.1 118 = .ok (.return_, 1) := by decide +kernel
abbrev mX4_isWord : aM := (yX4_isWord, cX4_isWord, 2, (some .boolean))
theorem dX4_isWord_0 : decode mX4_isWord.2.1 0 = .ok (.aload_n 0, 1) := by decide +kernel
theorem dX4_isWord_1 : decode mX4_isWord.2.1 1 = .ok (.getfield 24, 3) := by decide +kernel
theorem dX4_isWord_4 : decode mX4_isWord.2.1 4 = .ok (.iconst 2, 1) := by decide +kernel
theorem dX4_isWord_5 : decode mX4_isWord.2.1 5 = .ok (.if_icmp .ne 15, 3) := by decide +kernel
theorem dX4_isWord_8 : decode mX4_isWord.2.1 8 = .ok (.aload_n 0, 1) := by decide +kernel
theorem dX4_isWord_9 : decode mX4_isWord.2.1 9 = .ok (.getfield 30, 3) := by decide +kernel
theorem dX4_isWord_12 : decode mX4_isWord.2.1 12 = .ok (.iload_n 1, 1) := by decide +kernel
theorem dX4_isWord_13 : decode mX4_isWord.2.1 13 = .ok (.if_icmp .ne 7, 3) := by decide +kernel
theorem dX4_isWord_16 : decode mX4_isWord.2.1 16 = .ok (.iconst 1, 1) := by decide +kernel
theorem dX4_isWord_17 : decode mX4_isWord.2.1 17 = .ok (.goto 4, 3) := by decide +kernel
theorem dX4_isWord_20 : decode mX4_isWord.2.1 20 = .ok (.iconst 0, 1) := by decide +kernel
theorem dX4_isWord_21 : decode mX4_isWord.2.1 21 = .ok (.ireturn, 1) := by decide +kernel
abbrev mX4_isSign : aM := (yX4_isSign, cX4_isSign, 2, (some .boolean))
theorem dX4_isSign_0 : decode mX4_isSign.2.1 0 = .ok (.aload_n 0, 1) := by decide +kernel
theorem dX4_isSign_1 : decode mX4_isSign.2.1 1 = .ok (.getfield 24, 3) := by decide +kernel
theorem dX4_isSign_4 : decode mX4_isSign.2.1 4 = .ok (.iconst 4, 1) := by decide +kernel
theorem dX4_isSign_5 : decode mX4_isSign.2.1 5 = .ok (.if_icmp .ne 15, 3) := by decide +kernel
theorem dX4_isSign_8 : decode mX4_isSign.2.1 8 = .ok (.aload_n 0, 1) := by decide +kernel
theorem dX4_isSign_9 : decode mX4_isSign.2.1 9 = .ok (.getfield 27, 3) := by decide +kernel
theorem dX4_isSign_12 : decode mX4_isSign.2.1 12 = .ok (.iload_n 1, 1) := by decide +kernel
theorem dX4_isSign_13 : decode mX4_isSign.2.1 13 = .ok (.if_icmp .ne 7, 3) := by decide +kernel
theorem dX4_isSign_16 : decode mX4_isSign.2.1 16 = .ok (.iconst 1, 1) := by decide +kernel
theorem dX4_isSign_17 : decode mX4_isSign.2.1 17 = .ok (.goto 4, 3) := by decide +kernel
theorem dX4_isSign_20 : decode mX4_isSign.2.1 20 = .ok (.iconst 0, 1) := by decide +kernel
theorem dX4_isSign_21 : decode mX4_isSign.2.1 21 = .ok (.ireturn, 1) := by decide +kernel
abbrev mX4_takeOwn : aM := (yX4_takeOwn, cX4_takeOwn, 2, none)
theorem dX4_takeOwn_0 : decode mX4_takeOwn.2.1 0 = .ok (.aload_n 0, 1) := by decide +kernel
theorem dX4_takeOwn_1 : decode mX4_takeOwn.2.1 1 = .ok (.iload_n 1, 1) := by decide +kernel
theorem dX4_takeOwn_2 : decode mX4_takeOwn.2.1 2 = .ok (.invokevirtual 102, 3) := by decide +kernel
theorem dX4_takeOwn_5 : decode mX4_takeOwn.2.1 5 = .ok (.ifCond .eq 10, 3) := by decide +kernel
theorem dX4_takeOwn_8 : decode mX4_takeOwn.2.1 8 = .ok (.aload_n 0, 1) := by decide +kernel
theorem dX4_takeOwn_9 : decode mX4_takeOwn.2.1 9 = .ok (.invokevirtual 61, 3) := by decide +kernel
theorem dX4_takeOwn_12 : decode mX4_takeOwn.2.1 12 = .ok (.goto 12, 3) := by decide +kernel
theorem dX4_takeOwn_15 : decode mX4_takeOwn.2.1 15 = .ok (.aload_n 0, 1) := by decide +kernel
theorem dX4_takeOwn_16 : decode mX4_takeOwn.2.1 16 = .ok (.iconst 1, 1) := by decide +kernel
theorem dX4_takeOwn_17 : decode mX4_takeOwn.2.1 17 = .ok (.aload_n 0, 1) := by decide +kernel
theorem dX4_takeOwn_18 : decode mX4_takeOwn.2.1 18 = .ok (.getfield 21, 3) := by decide +kernel
theorem dX4_takeOwn_21 : decode mX4_takeOwn.2.1 21 = .ok (.invokevirtual 77, 3) := by decide +kernel
theorem dX4_takeOwn_24 : decode mX4_takeOwn.2.1 24 = .ok (.return_, 1) := by decide +kernel
abbrev mX4_takeSign : aM := (yX4_takeSign, cX4_takeSign, 2, none)
theorem dX4_takeSign_0 : decode mX4_takeSign.2.1 0 = .ok (.aload_n 0, 1) := by decide +kernel
theorem dX4_takeSign_1 : decode mX4_takeSign.2.1 1 = .ok (.iload_n 1, 1) := by decide +kernel
theorem dX4_takeSign_2 : decode mX4_takeSign.2.1 2 = .ok (.invokevirtual 105, 3) := by decide +kernel
theorem dX4_takeSign_5 : decode mX4_takeSign.2.1 5 = .ok (.ifCond .eq 10, 3) := by decide +kernel
theorem dX4_takeSign_8 : decode mX4_takeSign.2.1 8 = .ok (.aload_n 0, 1) := by decide +kernel
theorem dX4_takeSign_9 : decode mX4_takeSign.2.1 9 = .ok (.invokevirtual 61, 3) := by decide +kernel
theorem dX4_takeSign_12 : decode mX4_takeSign.2.1 12 = .ok (.goto 12, 3) := by decide +kernel
theorem dX4_takeSign_15 : decode mX4_takeSign.2.1 15 = .ok (.aload_n 0, 1) := by decide +kernel
theorem dX4_takeSign_16 : decode mX4_takeSign.2.1 16 = .ok (.iconst 1, 1) := by decide +kernel
theorem dX4_takeSign_17 : decode mX4_takeSign.2.1 17 = .ok (.aload_n 0, 1) := by decide +kernel
theorem dX4_takeSign_18 : decode mX4_takeSign.2.1 18 = .ok (.getfield 21, 3) := by decide +kernel
theorem dX4_takeSign_21 : decode mX4_takeSign.2.1 21 = .ok (.invokevirtual 77, 3) := by decide +kernel
theorem dX4_takeSign_24 : decode mX4_takeSign.2.1 24 = .ok (.return_, 1) := by decide +kernel
abbrev mX4_readStatement : aM := (yX4_readStatement, cX4_readStatement, 2, none)
theorem dX4_readStatement_0 : decode mX4_readStatement.2.1 0 = .ok (.aload_n 0, 1) := by decide +kernel
theorem dX4_readStatement_1 : decode mX4_readStatement.2.1 1 = .ok (.getfield 24, 3) := by decide +kernel
theorem dX4_readStatement_4 : decode mX4_readStatement.2.1 4 = .ok (.iconst 2, 1) := by decide +kernel
theorem dX4_readStatement_5 : decode mX4_readStatement.2.1 5 = .ok (.if_icmp .ne 10, 3) := by decide +kernel
theorem dX4_readStatement_8 : decode mX4_readStatement.2.1 8 = .ok (.aload_n 0, 1) := by decide +kernel
theorem dX4_readStatement_9 : decode mX4_readStatement.2.1 9 = .ok (.getfield 30, 3) := by decide +kernel
theorem dX4_readStatement_12 : decode mX4_readStatement.2.1 12 = .ok (.goto 4, 3) := by decide +kernel
theorem dX4_readStatement_15 : decode mX4_readStatement.2.1 15 = .ok (.iconst (-1), 1) := by decide +kernel
theorem dX4_readStatement_16 : decode mX4_readStatement.2.1 16 = .ok (.istore_n 1, 1) := by decide +kernel
theorem dX4_readStatement_17 : decode mX4_readStatement.2.1 17 = .ok (.iload_n 1, 1) := by decide +kernel
theorem dX4_readStatement_18 : decode mX4_readStatement.2.1 18 = .ok (.invokestatic 108, 3) := by decide +kernel
theorem dX4_readStatement_21 : decode mX4_readStatement.2.1 21 = .ok (.ifCond .ne 13, 3) := by decide +kernel
theorem dX4_readStatement_24 : decode mX4_readStatement.2.1 24 = .ok (.aload_n 0, 1) := by decide +kernel
theorem dX4_readStatement_25 : decode mX4_readStatement.2.1 25 = .ok (.iconst 1, 1) := by decide +kernel
theorem dX4_readStatement_26 : decode mX4_readStatement.2.1 26 = .ok (.aload_n 0, 1) := by decide +kernel
theorem dX4_readStatement_27 : decode mX4_readStatement.2.1 27 = .ok (.getfield 21, 3) := by decide +kernel
theorem dX4_readStatement_30 : decode mX4_readStatement.2.1 30 = .ok (.invokevirtual 77, 3) := by decide +kernel
theorem dX4_readStatement_33 : decode mX4_readStatement.2.1 33 = .ok (.return_, 1) := by decide +kernel
theorem dX4_readStatement_34 : decode mX4_readStatement.2.1 34 = .ok (.aload_n 0, 1) := by decide +kernel
theorem dX4_readStatement_35 : decode mX4_readStatement.2.1 35 = .ok (.iload_n 1, 1) := by decide +kernel
theorem dX4_readStatement_36 : decode mX4_readStatement.2.1 36 = .ok (.invokevirtual 111, 3) := by decide +kernel
theorem dX4_readStatement_39 : decode mX4_readStatement.2.1 39 = .ok (.ifCond .eq 14, 3) := by decide +kernel
theorem dX4_readStatement_42 : decode mX4_readStatement.2.1 42 = .ok (.aload_n 0, 1) := by decide +kernel
theorem dX4_readStatement_43 : decode mX4_readStatement.2.1 43 = .ok (.bipush 6, 2) := by decide +kernel
theorem dX4_readStatement_45 : decode mX4_readStatement.2.1 45 = .ok (.aload_n 0, 1) := by decide +kernel
theorem dX4_readStatement_46 : decode mX4_readStatement.2.1 46 = .ok (.getfield 21, 3) := by decide +kernel
theorem dX4_readStatement_49 : decode mX4_readStatement.2.1 49 = .ok (.invokevirtual 77, 3) := by decide +kernel
theorem dX4_readStatement_52 : decode mX4_readStatement.2.1 52 = .ok (.return_, 1) := by decide +kernel
theorem dX4_readStatement_53 : decode mX4_readStatement.2.1 53 = .ok (.aload_n 0, 1) := by decide +kernel
theorem dX4_readStatement_54 : decode mX4_readStatement.2.1 54 = .ok (.invokevirtual 61, 3) := by decide +kernel
theorem dX4_readStatement_57 : decode mX4_readStatement.2.1 57 = .ok (.aload_n 0, 1) := by decide +kernel
theorem dX4_readStatement_58 : decode mX4_readStatement.2.1 58 = .ok (.iload_n 1, 1) := by decide +kernel
theorem dX4_readStatement_59 : decode mX4_readStatement.2.1 59 = .ok (.putfield 33, 3) := by decide +kernel
theorem dX4_readStatement_62 : decode mX4_readStatement.2.1 62 = .ok (.aload_n 0, 1) := by decide +kernel
theorem dX4_readStatement_63 : decode mX4_readStatement.2.1 63 = .ok (.getfield 57, 3) := by decide +kernel
theorem dX4_readStatement_66 : decode mX4_readStatement.2.1 66 = .ok (.iload_n 1, 1) := by decide +kernel
theorem dX4_readStatement_67 : decode mX4_readStatement.2.1 67 = .ok (.invokevirtual 114, 3) := by decide +kernel
theorem dX4_readStatement_70 : decode mX4_readStatement.2.1 70 = .ok (.iload_n 1, 1) := by decide +kernel
theorem dX4_readStatement_71 : decode mX4_readStatement.2.1 71 = .ok (.tableswitch 153 0 15 #[77, 153, 153, 88, 153, 153, 99, 153, 153, 153, 153, 145, 145, 153, 111, 128], 77) := by decide +kernel
theorem dX4_readStatement_148 : decode mX4_readStatement.2.1 148 = .ok (.aload_n 0, 1) := by decide +kernel
theorem dX4_readStatement_149 : decode mX4_readStatement.2.1 149 = .ok (.iconst 0, 1) := by decide +kernel
theorem dX4_readStatement_150 : decode mX4_readStatement.2.1 150 = .ok (.iconst 1, 1) := by decide +kernel
theorem dX4_readStatement_151 : decode mX4_readStatement.2.1 151 = .ok (.bipush 9, 2) := by decide +kernel
theorem dX4_readStatement_153 : decode mX4_readStatement.2.1 153 = .ok (.invokevirtual 117, 3) := by decide +kernel
theorem dX4_readStatement_156 : decode mX4_readStatement.2.1 156 = .ok (.goto 73, 3) := by decide +kernel
theorem dX4_readStatement_159 : decode mX4_readStatement.2.1 159 = .ok (.aload_n 0, 1) := by decide +kernel
theorem dX4_readStatement_160 : decode mX4_readStatement.2.1 160 = .ok (.iconst 1, 1) := by decide +kernel
theorem dX4_readStatement_161 : decode mX4_readStatement.2.1 161 = .ok (.iconst 4, 1) := by decide +kernel
theorem dX4_readStatement_162 : decode mX4_readStatement.2.1 162 = .ok (.bipush 99, 2) := by decide +kernel
theorem dX4_readStatement_164 : decode mX4_readStatement.2.1 164 = .ok (.invokevirtual 117, 3) := by decide +kernel
theorem dX4_readStatement_167 : decode mX4_readStatement.2.1 167 = .ok (.goto 62, 3) := by decide +kernel
theorem dX4_readStatement_170 : decode mX4_readStatement.2.1 170 = .ok (.aload_n 0, 1) := by decide +kernel
theorem dX4_readStatement_171 : decode mX4_readStatement.2.1 171 = .ok (.iconst 2, 1) := by decide +kernel
theorem dX4_readStatement_172 : decode mX4_readStatement.2.1 172 = .ok (.bipush 7, 2) := by decide +kernel
theorem dX4_readStatement_174 : decode mX4_readStatement.2.1 174 = .ok (.bipush 9, 2) := by decide +kernel
theorem dX4_readStatement_176 : decode mX4_readStatement.2.1 176 = .ok (.invokevirtual 117, 3) := by decide +kernel
theorem dX4_readStatement_179 : decode mX4_readStatement.2.1 179 = .ok (.goto 50, 3) := by decide +kernel
theorem dX4_readStatement_182 : decode mX4_readStatement.2.1 182 = .ok (.aload_n 0, 1) := by decide +kernel
theorem dX4_readStatement_183 : decode mX4_readStatement.2.1 183 = .ok (.getfield 57, 3) := by decide +kernel
theorem dX4_readStatement_186 : decode mX4_readStatement.2.1 186 = .ok (.aload_n 0, 1) := by decide +kernel
theorem dX4_readStatement_187 : decode mX4_readStatement.2.1 187 = .ok (.iconst 0, 1) := by decide +kernel
theorem dX4_readStatement_188 : decode mX4_readStatement.2.1 188 = .ok (.bipush 99, 2) := by decide +kernel
theorem dX4_readStatement_190 : decode mX4_readStatement.2.1 190 = .ok (.invokevirtual 121, 3) := by decide +kernel
theorem dX4_readStatement_193 : decode mX4_readStatement.2.1 193 = .ok (.putfield 124, 3) := by decide +kernel
theorem dX4_readStatement_196 : decode mX4_readStatement.2.1 196 = .ok (.goto 33, 3) := by decide +kernel
theorem dX4_readStatement_199 : decode mX4_readStatement.2.1 199 = .ok (.aload_n 0, 1) := by decide +kernel
theorem dX4_readStatement_200 : decode mX4_readStatement.2.1 200 = .ok (.getfield 57, 3) := by decide +kernel
theorem dX4_readStatement_203 : decode mX4_readStatement.2.1 203 = .ok (.aload_n 0, 1) := by decide +kernel
theorem dX4_readStatement_204 : decode mX4_readStatement.2.1 204 = .ok (.iconst 0, 1) := by decide +kernel
theorem dX4_readStatement_205 : decode mX4_readStatement.2.1 205 = .ok (.bipush 100, 2) := by decide +kernel
theorem dX4_readStatement_207 : decode mX4_readStatement.2.1 207 = .ok (.invokevirtual 121, 3) := by decide +kernel
theorem dX4_readStatement_210 : decode mX4_readStatement.2.1 210 = .ok (.putfield 127, 3) := by decide +kernel
theorem dX4_readStatement_213 : decode mX4_readStatement.2.1 213 = .ok (.goto 16, 3) := by decide +kernel
theorem dX4_readStatement_216 : decode mX4_readStatement.2.1 216 = .ok (.aload_n 0, 1) := by decide +kernel
theorem dX4_readStatement_217 : decode mX4_readStatement.2.1 217 = .ok (.iconst 0, 1) := by decide +kernel
theorem dX4_readStatement_218 : decode mX4_readStatement.2.1 218 = .ok (.invokevirtual 130, 3) := by decide +kernel
theorem dX4_readStatement_221 : decode mX4_readStatement.2.1 221 = .ok (.goto 8, 3) := by decide +kernel
theorem dX4_readStatement_224 : decode mX4_readStatement.2.1 224 = .ok (.aload_n 0, 1) := by decide +kernel
theorem dX4_readStatement_225 : decode mX4_readStatement.2.1 225 = .ok (.iconst 0, 1) := by decide +kernel
theorem dX4_readStatement_226 : decode mX4_readStatement.2.1 226 = .ok (.invokevirtual 133, 3) := by decide +kernel
theorem dX4_readStatement_229 : decode mX4_readStatement.2.1 229 = .ok (.aload_n 0, 1) := by decide +kernel
theorem dX4_readStatement_230 : decode mX4_readStatement.2.1 230 = .ok (.getfield 57, 3) := by decide +kernel
theorem dX4_readStatement_233 : decode mX4_readStatement.2.1 233 = .ok (.iload_n 1, 1) := by decide +kernel
theorem dX4_readStatement_234 : decode mX4_readStatement.2.1 234 = .ok (.invokevirtual 136, 3) := by decide +kernel
theorem dX4_readStatement_237 : decode mX4_readStatement.2.1 237 = .ok (.aload_n 0, 1) := by decide +kernel
theorem dX4_readStatement_238 : decode mX4_readStatement.2.1 238 = .ok (.invokevirtual 139, 3) := by decide +kernel
theorem dX4_readStatement_241 : decode mX4_readStatement.2.1 241 = .ok (.return_, 1) := by decide +kernel
abbrev mX4_endStatement : aM := (yX4_endStatement, cX4_endStatement, 1, none)
theorem dX4_endStatement_0 : decode mX4_endStatement.2.1 0 = .ok (.aload_n 0, 1) := by decide +kernel
theorem dX4_endStatement_1 : decode mX4_endStatement.2.1 1 = .ok (.getfield 57, 3) := by decide +kernel
theorem dX4_endStatement_4 : decode mX4_endStatement.2.1 4 = .ok (.dup, 1) := by decide +kernel
theorem dX4_endStatement_5 : decode mX4_endStatement.2.1 5 = .ok (.getfield 142, 3) := by decide +kernel
theorem dX4_endStatement_8 : decode mX4_endStatement.2.1 8 = .ok (.iconst 1, 1) := by decide +kernel
theorem dX4_endStatement_9 : decode mX4_endStatement.2.1 9 = .ok (.iadd, 1) := by decide +kernel
theorem dX4_endStatement_10 : decode mX4_endStatement.2.1 10 = .ok (.putfield 142, 3) := by decide +kernel
theorem dX4_endStatement_13 : decode mX4_endStatement.2.1 13 = .ok (.aload_n 0, 1) := by decide +kernel
theorem dX4_endStatement_14 : decode mX4_endStatement.2.1 14 = .ok (.bipush 59, 2) := by decide +kernel
theorem dX4_endStatement_16 : decode mX4_endStatement.2.1 16 = .ok (.invokevirtual 105, 3) := by decide +kernel
theorem dX4_endStatement_19 : decode mX4_endStatement.2.1 19 = .ok (.ifCond .eq 41, 3) := by decide +kernel
theorem dX4_endStatement_22 : decode mX4_endStatement.2.1 22 = .ok (.aload_n 0, 1) := by decide +kernel
theorem dX4_endStatement_23 : decode mX4_endStatement.2.1 23 = .ok (.getfield 57, 3) := by decide +kernel
theorem dX4_endStatement_26 : decode mX4_endStatement.2.1 26 = .ok (.getfield 142, 3) := by decide +kernel
theorem dX4_endStatement_29 : decode mX4_endStatement.2.1 29 = .ok (.bipush 80, 2) := by decide +kernel
theorem dX4_endStatement_31 : decode mX4_endStatement.2.1 31 = .ok (.if_icmp .lt 29, 3) := by decide +kernel
theorem dX4_endStatement_34 : decode mX4_endStatement.2.1 34 = .ok (.aload_n 0, 1) := by decide +kernel
theorem dX4_endStatement_35 : decode mX4_endStatement.2.1 35 = .ok (.invokevirtual 67, 3) := by decide +kernel
theorem dX4_endStatement_38 : decode mX4_endStatement.2.1 38 = .ok (.aload_n 0, 1) := by decide +kernel
theorem dX4_endStatement_39 : decode mX4_endStatement.2.1 39 = .ok (.getfield 18, 3) := by decide +kernel
theorem dX4_endStatement_42 : decode mX4_endStatement.2.1 42 = .ok (.aload_n 0, 1) := by decide +kernel
theorem dX4_endStatement_43 : decode mX4_endStatement.2.1 43 = .ok (.getfield 49, 3) := by decide +kernel
theorem dX4_endStatement_46 : decode mX4_endStatement.2.1 46 = .ok (.if_icmp .ge 14, 3) := by decide +kernel
theorem dX4_endStatement_49 : decode mX4_endStatement.2.1 49 = .ok (.aload_n 0, 1) := by decide +kernel
theorem dX4_endStatement_50 : decode mX4_endStatement.2.1 50 = .ok (.bipush 6, 2) := by decide +kernel
theorem dX4_endStatement_52 : decode mX4_endStatement.2.1 52 = .ok (.aload_n 0, 1) := by decide +kernel
theorem dX4_endStatement_53 : decode mX4_endStatement.2.1 53 = .ok (.getfield 18, 3) := by decide +kernel
theorem dX4_endStatement_56 : decode mX4_endStatement.2.1 56 = .ok (.invokevirtual 77, 3) := by decide +kernel
theorem dX4_endStatement_59 : decode mX4_endStatement.2.1 59 = .ok (.return_, 1) := by decide +kernel
theorem dX4_endStatement_60 : decode mX4_endStatement.2.1 60 = .ok (.aload_n 0, 1) := by decide +kernel
theorem dX4_endStatement_61 : decode mX4_endStatement.2.1 61 = .ok (.bipush 59, 2) := by decide +kernel
theorem dX4_endStatement_63 : decode mX4_endStatement.2.1 63 = .ok (.invokevirtual 145, 3) := by decide +kernel
theorem dX4_endStatement_66 : decode mX4_endStatement.2.1 66 = .ok (.return_, 1) := by decide +kernel
abbrev mX4_beginsStatement : aM := (yX4_beginsStatement, cX4_beginsStatement, 1, (some .boolean))
theorem dX4_beginsStatement_0 : decode mX4_beginsStatement.2.1 0 = .ok (.iload_n 0, 1) := by decide +kernel
theorem dX4_beginsStatement_1 : decode mX4_beginsStatement.2.1 1 = .ok (.ifCond .eq 26, 3) := by decide +kernel
theorem dX4_beginsStatement_4 : decode mX4_beginsStatement.2.1 4 = .ok (.iload_n 0, 1) := by decide +kernel
theorem dX4_beginsStatement_5 : decode mX4_beginsStatement.2.1 5 = .ok (.iconst 3, 1) := by decide +kernel
theorem dX4_beginsStatement_6 : decode mX4_beginsStatement.2.1 6 = .ok (.if_icmp .eq 21, 3) := by decide +kernel
theorem dX4_beginsStatement_9 : decode mX4_beginsStatement.2.1 9 = .ok (.iload_n 0, 1) := by decide +kernel
theorem dX4_beginsStatement_10 : decode mX4_beginsStatement.2.1 10 = .ok (.bipush 6, 2) := by decide +kernel
theorem dX4_beginsStatement_12 : decode mX4_beginsStatement.2.1 12 = .ok (.if_icmp .eq 15, 3) := by decide +kernel
theorem dX4_beginsStatement_15 : decode mX4_beginsStatement.2.1 15 = .ok (.iload_n 0, 1) := by decide +kernel
theorem dX4_beginsStatement_16 : decode mX4_beginsStatement.2.1 16 = .ok (.bipush 9, 2) := by decide +kernel
theorem dX4_beginsStatement_18 : decode mX4_beginsStatement.2.1 18 = .ok (.if_icmp .lt 13, 3) := by decide +kernel
theorem dX4_beginsStatement_21 : decode mX4_beginsStatement.2.1 21 = .ok (.iload_n 0, 1) := by decide +kernel
theorem dX4_beginsStatement_22 : decode mX4_beginsStatement.2.1 22 = .ok (.bipush 15, 2) := by decide +kernel
theorem dX4_beginsStatement_24 : decode mX4_beginsStatement.2.1 24 = .ok (.if_icmp .gt 7, 3) := by decide +kernel
theorem dX4_beginsStatement_27 : decode mX4_beginsStatement.2.1 27 = .ok (.iconst 1, 1) := by decide +kernel
theorem dX4_beginsStatement_28 : decode mX4_beginsStatement.2.1 28 = .ok (.goto 4, 3) := by decide +kernel
theorem dX4_beginsStatement_31 : decode mX4_beginsStatement.2.1 31 = .ok (.iconst 0, 1) := by decide +kernel
theorem dX4_beginsStatement_32 : decode mX4_beginsStatement.2.1 32 = .ok (.ireturn, 1) := by decide +kernel
abbrev mX4_isFull : aM := (yX4_isFull, cX4_isFull, 2, (some .boolean))
theorem dX4_isFull_0 : decode mX4_isFull.2.1 0 = .ok (.iload_n 1, 1) := by decide +kernel
theorem dX4_isFull_1 : decode mX4_isFull.2.1 1 = .ok (.lookupswitch 112 #[(0, 51), (3, 70), (6, 90), (14, 110), (15, 110)], 51) := by decide +kernel
theorem dX4_isFull_52 : decode mX4_isFull.2.1 52 = .ok (.aload_n 0, 1) := by decide +kernel
theorem dX4_isFull_53 : decode mX4_isFull.2.1 53 = .ok (.getfield 57, 3) := by decide +kernel
theorem dX4_isFull_56 : decode mX4_isFull.2.1 56 = .ok (.getfield 148, 3) := by decide +kernel
theorem dX4_isFull_59 : decode mX4_isFull.2.1 59 = .ok (.iconst 0, 1) := by decide +kernel
theorem dX4_isFull_60 : decode mX4_isFull.2.1 60 = .ok (.iaload, 1) := by decide +kernel
theorem dX4_isFull_61 : decode mX4_isFull.2.1 61 = .ok (.iconst 5, 1) := by decide +kernel
theorem dX4_isFull_62 : decode mX4_isFull.2.1 62 = .ok (.if_icmp .lt 7, 3) := by decide +kernel
theorem dX4_isFull_65 : decode mX4_isFull.2.1 65 = .ok (.iconst 1, 1) := by decide +kernel
theorem dX4_isFull_66 : decode mX4_isFull.2.1 66 = .ok (.goto 4, 3) := by decide +kernel
theorem dX4_isFull_69 : decode mX4_isFull.2.1 69 = .ok (.iconst 0, 1) := by decide +kernel
theorem dX4_isFull_70 : decode mX4_isFull.2.1 70 = .ok (.ireturn, 1) := by decide +kernel
theorem dX4_isFull_71 : decode mX4_isFull.2.1 71 = .ok (.aload_n 0, 1) := by decide +kernel
theorem dX4_isFull_72 : decode mX4_isFull.2.1 72 = .ok (.getfield 57, 3) := by decide +kernel
theorem dX4_isFull_75 : decode mX4_isFull.2.1 75 = .ok (.getfield 148, 3) := by decide +kernel
theorem dX4_isFull_78 : decode mX4_isFull.2.1 78 = .ok (.iconst 1, 1) := by decide +kernel
theorem dX4_isFull_79 : decode mX4_isFull.2.1 79 = .ok (.iaload, 1) := by decide +kernel
theorem dX4_isFull_80 : decode mX4_isFull.2.1 80 = .ok (.bipush 6, 2) := by decide +kernel
theorem dX4_isFull_82 : decode mX4_isFull.2.1 82 = .ok (.if_icmp .lt 7, 3) := by decide +kernel
theorem dX4_isFull_85 : decode mX4_isFull.2.1 85 = .ok (.iconst 1, 1) := by decide +kernel
theorem dX4_isFull_86 : decode mX4_isFull.2.1 86 = .ok (.goto 4, 3) := by decide +kernel
theorem dX4_isFull_89 : decode mX4_isFull.2.1 89 = .ok (.iconst 0, 1) := by decide +kernel
theorem dX4_isFull_90 : decode mX4_isFull.2.1 90 = .ok (.ireturn, 1) := by decide +kernel
theorem dX4_isFull_91 : decode mX4_isFull.2.1 91 = .ok (.aload_n 0, 1) := by decide +kernel
theorem dX4_isFull_92 : decode mX4_isFull.2.1 92 = .ok (.getfield 57, 3) := by decide +kernel
theorem dX4_isFull_95 : decode mX4_isFull.2.1 95 = .ok (.getfield 148, 3) := by decide +kernel
theorem dX4_isFull_98 : decode mX4_isFull.2.1 98 = .ok (.iconst 2, 1) := by decide +kernel
theorem dX4_isFull_99 : decode mX4_isFull.2.1 99 = .ok (.iaload, 1) := by decide +kernel
theorem dX4_isFull_100 : decode mX4_isFull.2.1 100 = .ok (.bipush 6, 2) := by decide +kernel
theorem dX4_isFull_102 : decode mX4_isFull.2.1 102 = .ok (.if_icmp .lt 7, 3) := by decide +kernel
theorem dX4_isFull_105 : decode mX4_isFull.2.1 105 = .ok (.iconst 1, 1) := by decide +kernel
theorem dX4_isFull_106 : decode mX4_isFull.2.1 106 = .ok (.goto 4, 3) := by decide +kernel
theorem dX4_isFull_109 : decode mX4_isFull.2.1 109 = .ok (.iconst 0, 1) := by decide +kernel
theorem dX4_isFull_110 : decode mX4_isFull.2.1 110 = .ok (.ireturn, 1) := by decide +kernel
theorem dX4_isFull_111 : decode mX4_isFull.2.1 111 = .ok (.iconst 0, 1) := by decide +kernel
theorem dX4_isFull_112 : decode mX4_isFull.2.1 112 = .ok (.ireturn, 1) := by decide +kernel
theorem dX4_isFull_113 : decode mX4_isFull.2.1 113 = .ok (.aload_n 0, 1) := by decide +kernel
theorem dX4_isFull_114 : decode mX4_isFull.2.1 114 = .ok (.getfield 57, 3) := by decide +kernel
theorem dX4_isFull_117 : decode mX4_isFull.2.1 117 = .ok (.iload_n 1, 1) := by decide +kernel
theorem dX4_isFull_118 : decode mX4_isFull.2.1 118 = .ok (.invokevirtual 152, 3) := by decide +kernel
theorem dX4_isFull_121 : decode mX4_isFull.2.1 121 = .ok (.ireturn, 1) := by decide +kernel
abbrev mX4_readThing : aM := (yX4_readThing, cX4_readThing, 7, none)
theorem dX4_readThing_0 : decode mX4_readThing.2.1 0 = .ok (.aload_n 0, 1) := by decide +kernel
theorem dX4_readThing_1 : decode mX4_readThing.2.1 1 = .ok (.invokevirtual 155, 3) := by decide +kernel
theorem dX4_readThing_4 : decode mX4_readThing.2.1 4 = .ok (.istore 4, 2) := by decide +kernel
theorem dX4_readThing_6 : decode mX4_readThing.2.1 6 = .ok (.aload_n 0, 1) := by decide +kernel
theorem dX4_readThing_7 : decode mX4_readThing.2.1 7 = .ok (.iload_n 2, 1) := by decide +kernel
theorem dX4_readThing_8 : decode mX4_readThing.2.1 8 = .ok (.invokevirtual 158, 3) := by decide +kernel
theorem dX4_readThing_11 : decode mX4_readThing.2.1 11 = .ok (.aload_n 0, 1) := by decide +kernel
theorem dX4_readThing_12 : decode mX4_readThing.2.1 12 = .ok (.iload_n 1, 1) := by decide +kernel
theorem dX4_readThing_13 : decode mX4_readThing.2.1 13 = .ok (.ifCond .ne 7, 3) := by decide +kernel
theorem dX4_readThing_16 : decode mX4_readThing.2.1 16 = .ok (.iconst 1, 1) := by decide +kernel
theorem dX4_readThing_17 : decode mX4_readThing.2.1 17 = .ok (.goto 4, 3) := by decide +kernel
theorem dX4_readThing_20 : decode mX4_readThing.2.1 20 = .ok (.iconst 0, 1) := by decide +kernel
theorem dX4_readThing_21 : decode mX4_readThing.2.1 21 = .ok (.iload_n 3, 1) := by decide +kernel
theorem dX4_readThing_22 : decode mX4_readThing.2.1 22 = .ok (.invokevirtual 121, 3) := by decide +kernel
theorem dX4_readThing_25 : decode mX4_readThing.2.1 25 = .ok (.istore 5, 2) := by decide +kernel
theorem dX4_readThing_27 : decode mX4_readThing.2.1 27 = .ok (.aload_n 0, 1) := by decide +kernel
theorem dX4_readThing_28 : decode mX4_readThing.2.1 28 = .ok (.iload_n 2, 1) := by decide +kernel
theorem dX4_readThing_29 : decode mX4_readThing.2.1 29 = .ok (.iconst 1, 1) := by decide +kernel
theorem dX4_readThing_30 : decode mX4_readThing.2.1 30 = .ok (.iadd, 1) := by decide +kernel
theorem dX4_readThing_31 : decode mX4_readThing.2.1 31 = .ok (.invokevirtual 158, 3) := by decide +kernel
theorem dX4_readThing_34 : decode mX4_readThing.2.1 34 = .ok (.aload_n 0, 1) := by decide +kernel
theorem dX4_readThing_35 : decode mX4_readThing.2.1 35 = .ok (.iload_n 1, 1) := by decide +kernel
theorem dX4_readThing_36 : decode mX4_readThing.2.1 36 = .ok (.ifCond .ne 7, 3) := by decide +kernel
theorem dX4_readThing_39 : decode mX4_readThing.2.1 39 = .ok (.iconst 1, 1) := by decide +kernel
theorem dX4_readThing_40 : decode mX4_readThing.2.1 40 = .ok (.goto 4, 3) := by decide +kernel
theorem dX4_readThing_43 : decode mX4_readThing.2.1 43 = .ok (.iconst 0, 1) := by decide +kernel
theorem dX4_readThing_44 : decode mX4_readThing.2.1 44 = .ok (.iload_n 1, 1) := by decide +kernel
theorem dX4_readThing_45 : decode mX4_readThing.2.1 45 = .ok (.ifCond .ne 8, 3) := by decide +kernel
theorem dX4_readThing_48 : decode mX4_readThing.2.1 48 = .ok (.bipush 99, 2) := by decide +kernel
theorem dX4_readThing_50 : decode mX4_readThing.2.1 50 = .ok (.goto 5, 3) := by decide +kernel
theorem dX4_readThing_53 : decode mX4_readThing.2.1 53 = .ok (.bipush 9, 2) := by decide +kernel
theorem dX4_readThing_55 : decode mX4_readThing.2.1 55 = .ok (.invokevirtual 121, 3) := by decide +kernel
theorem dX4_readThing_58 : decode mX4_readThing.2.1 58 = .ok (.istore 6, 2) := by decide +kernel
theorem dX4_readThing_60 : decode mX4_readThing.2.1 60 = .ok (.aload_n 0, 1) := by decide +kernel
theorem dX4_readThing_61 : decode mX4_readThing.2.1 61 = .ok (.getfield 57, 3) := by decide +kernel
theorem dX4_readThing_64 : decode mX4_readThing.2.1 64 = .ok (.iload_n 1, 1) := by decide +kernel
theorem dX4_readThing_65 : decode mX4_readThing.2.1 65 = .ok (.iload 4, 2) := by decide +kernel
theorem dX4_readThing_67 : decode mX4_readThing.2.1 67 = .ok (.iload 5, 2) := by decide +kernel
theorem dX4_readThing_69 : decode mX4_readThing.2.1 69 = .ok (.iload 6, 2) := by decide +kernel
theorem dX4_readThing_71 : decode mX4_readThing.2.1 71 = .ok (.invokevirtual 161, 3) := by decide +kernel
theorem dX4_readThing_74 : decode mX4_readThing.2.1 74 = .ok (.return_, 1) := by decide +kernel
abbrev mX4_takeName : aM := (yX4_takeName, cX4_takeName, 2, (some .int))
theorem dX4_takeName_0 : decode mX4_takeName.2.1 0 = .ok (.aload_n 0, 1) := by decide +kernel
theorem dX4_takeName_1 : decode mX4_takeName.2.1 1 = .ok (.getfield 27, 3) := by decide +kernel
theorem dX4_takeName_4 : decode mX4_takeName.2.1 4 = .ok (.istore_n 1, 1) := by decide +kernel
theorem dX4_takeName_5 : decode mX4_takeName.2.1 5 = .ok (.aload_n 0, 1) := by decide +kernel
theorem dX4_takeName_6 : decode mX4_takeName.2.1 6 = .ok (.getfield 24, 3) := by decide +kernel
theorem dX4_takeName_9 : decode mX4_takeName.2.1 9 = .ok (.iconst 2, 1) := by decide +kernel
theorem dX4_takeName_10 : decode mX4_takeName.2.1 10 = .ok (.if_icmp .ne 11, 3) := by decide +kernel
theorem dX4_takeName_13 : decode mX4_takeName.2.1 13 = .ok (.aload_n 0, 1) := by decide +kernel
theorem dX4_takeName_14 : decode mX4_takeName.2.1 14 = .ok (.getfield 30, 3) := by decide +kernel
theorem dX4_takeName_17 : decode mX4_takeName.2.1 17 = .ok (.iconst (-1), 1) := by decide +kernel
theorem dX4_takeName_18 : decode mX4_takeName.2.1 18 = .ok (.if_icmp .eq 15, 3) := by decide +kernel
theorem dX4_takeName_21 : decode mX4_takeName.2.1 21 = .ok (.aload_n 0, 1) := by decide +kernel
theorem dX4_takeName_22 : decode mX4_takeName.2.1 22 = .ok (.iconst 1, 1) := by decide +kernel
theorem dX4_takeName_23 : decode mX4_takeName.2.1 23 = .ok (.aload_n 0, 1) := by decide +kernel
theorem dX4_takeName_24 : decode mX4_takeName.2.1 24 = .ok (.getfield 21, 3) := by decide +kernel
theorem dX4_takeName_27 : decode mX4_takeName.2.1 27 = .ok (.invokevirtual 77, 3) := by decide +kernel
theorem dX4_takeName_30 : decode mX4_takeName.2.1 30 = .ok (.goto 30, 3) := by decide +kernel
theorem dX4_takeName_33 : decode mX4_takeName.2.1 33 = .ok (.aload_n 0, 1) := by decide +kernel
theorem dX4_takeName_34 : decode mX4_takeName.2.1 34 = .ok (.getfield 57, 3) := by decide +kernel
theorem dX4_takeName_37 : decode mX4_takeName.2.1 37 = .ok (.iload_n 1, 1) := by decide +kernel
theorem dX4_takeName_38 : decode mX4_takeName.2.1 38 = .ok (.invokevirtual 165, 3) := by decide +kernel
theorem dX4_takeName_41 : decode mX4_takeName.2.1 41 = .ok (.ifCond .eq 15, 3) := by decide +kernel
theorem dX4_takeName_44 : decode mX4_takeName.2.1 44 = .ok (.aload_n 0, 1) := by decide +kernel
theorem dX4_takeName_45 : decode mX4_takeName.2.1 45 = .ok (.iconst 2, 1) := by decide +kernel
theorem dX4_takeName_46 : decode mX4_takeName.2.1 46 = .ok (.aload_n 0, 1) := by decide +kernel
theorem dX4_takeName_47 : decode mX4_takeName.2.1 47 = .ok (.getfield 21, 3) := by decide +kernel
theorem dX4_takeName_50 : decode mX4_takeName.2.1 50 = .ok (.invokevirtual 77, 3) := by decide +kernel
theorem dX4_takeName_53 : decode mX4_takeName.2.1 53 = .ok (.goto 7, 3) := by decide +kernel
theorem dX4_takeName_56 : decode mX4_takeName.2.1 56 = .ok (.aload_n 0, 1) := by decide +kernel
theorem dX4_takeName_57 : decode mX4_takeName.2.1 57 = .ok (.invokevirtual 61, 3) := by decide +kernel
theorem dX4_takeName_60 : decode mX4_takeName.2.1 60 = .ok (.iload_n 1, 1) := by decide +kernel
theorem dX4_takeName_61 : decode mX4_takeName.2.1 61 = .ok (.ireturn, 1) := by decide +kernel
abbrev mX4_takeValue : aM := (yX4_takeValue, cX4_takeValue, 4, (some .int))
theorem dX4_takeValue_0 : decode mX4_takeValue.2.1 0 = .ok (.aload_n 0, 1) := by decide +kernel
theorem dX4_takeValue_1 : decode mX4_takeValue.2.1 1 = .ok (.getfield 27, 3) := by decide +kernel
theorem dX4_takeValue_4 : decode mX4_takeValue.2.1 4 = .ok (.istore_n 3, 1) := by decide +kernel
theorem dX4_takeValue_5 : decode mX4_takeValue.2.1 5 = .ok (.aload_n 0, 1) := by decide +kernel
theorem dX4_takeValue_6 : decode mX4_takeValue.2.1 6 = .ok (.getfield 24, 3) := by decide +kernel
theorem dX4_takeValue_9 : decode mX4_takeValue.2.1 9 = .ok (.iconst 3, 1) := by decide +kernel
theorem dX4_takeValue_10 : decode mX4_takeValue.2.1 10 = .ok (.if_icmp .eq 15, 3) := by decide +kernel
theorem dX4_takeValue_13 : decode mX4_takeValue.2.1 13 = .ok (.aload_n 0, 1) := by decide +kernel
theorem dX4_takeValue_14 : decode mX4_takeValue.2.1 14 = .ok (.iconst 1, 1) := by decide +kernel
theorem dX4_takeValue_15 : decode mX4_takeValue.2.1 15 = .ok (.aload_n 0, 1) := by decide +kernel
theorem dX4_takeValue_16 : decode mX4_takeValue.2.1 16 = .ok (.getfield 21, 3) := by decide +kernel
theorem dX4_takeValue_19 : decode mX4_takeValue.2.1 19 = .ok (.invokevirtual 77, 3) := by decide +kernel
theorem dX4_takeValue_22 : decode mX4_takeValue.2.1 22 = .ok (.goto 29, 3) := by decide +kernel
theorem dX4_takeValue_25 : decode mX4_takeValue.2.1 25 = .ok (.iload_n 3, 1) := by decide +kernel
theorem dX4_takeValue_26 : decode mX4_takeValue.2.1 26 = .ok (.iload_n 1, 1) := by decide +kernel
theorem dX4_takeValue_27 : decode mX4_takeValue.2.1 27 = .ok (.if_icmp .lt 8, 3) := by decide +kernel
theorem dX4_takeValue_30 : decode mX4_takeValue.2.1 30 = .ok (.iload_n 3, 1) := by decide +kernel
theorem dX4_takeValue_31 : decode mX4_takeValue.2.1 31 = .ok (.iload_n 2, 1) := by decide +kernel
theorem dX4_takeValue_32 : decode mX4_takeValue.2.1 32 = .ok (.if_icmp .le 15, 3) := by decide +kernel
theorem dX4_takeValue_35 : decode mX4_takeValue.2.1 35 = .ok (.aload_n 0, 1) := by decide +kernel
theorem dX4_takeValue_36 : decode mX4_takeValue.2.1 36 = .ok (.iconst 4, 1) := by decide +kernel
theorem dX4_takeValue_37 : decode mX4_takeValue.2.1 37 = .ok (.aload_n 0, 1) := by decide +kernel
theorem dX4_takeValue_38 : decode mX4_takeValue.2.1 38 = .ok (.getfield 21, 3) := by decide +kernel
theorem dX4_takeValue_41 : decode mX4_takeValue.2.1 41 = .ok (.invokevirtual 77, 3) := by decide +kernel
theorem dX4_takeValue_44 : decode mX4_takeValue.2.1 44 = .ok (.goto 7, 3) := by decide +kernel
theorem dX4_takeValue_47 : decode mX4_takeValue.2.1 47 = .ok (.aload_n 0, 1) := by decide +kernel
theorem dX4_takeValue_48 : decode mX4_takeValue.2.1 48 = .ok (.invokevirtual 61, 3) := by decide +kernel
theorem dX4_takeValue_51 : decode mX4_takeValue.2.1 51 = .ok (.iload_n 3, 1) := by decide +kernel
theorem dX4_takeValue_52 : decode mX4_takeValue.2.1 52 = .ok (.ireturn, 1) := by decide +kernel
abbrev mX4_readSum : aM := (yX4_readSum, cX4_readSum, 4, none)
theorem dX4_readSum_0 : decode mX4_readSum.2.1 0 = .ok (.aload_n 0, 1) := by decide +kernel
theorem dX4_readSum_1 : decode mX4_readSum.2.1 1 = .ok (.iload_n 1, 1) := by decide +kernel
theorem dX4_readSum_2 : decode mX4_readSum.2.1 2 = .ok (.invokevirtual 168, 3) := by decide +kernel
theorem dX4_readSum_5 : decode mX4_readSum.2.1 5 = .ok (.iconst 0, 1) := by decide +kernel
theorem dX4_readSum_6 : decode mX4_readSum.2.1 6 = .ok (.istore_n 2, 1) := by decide +kernel
theorem dX4_readSum_7 : decode mX4_readSum.2.1 7 = .ok (.iload_n 2, 1) := by decide +kernel
theorem dX4_readSum_8 : decode mX4_readSum.2.1 8 = .ok (.aload_n 0, 1) := by decide +kernel
theorem dX4_readSum_9 : decode mX4_readSum.2.1 9 = .ok (.getfield 49, 3) := by decide +kernel
theorem dX4_readSum_12 : decode mX4_readSum.2.1 12 = .ok (.if_icmp .ge 60, 3) := by decide +kernel
theorem dX4_readSum_15 : decode mX4_readSum.2.1 15 = .ok (.aload_n 0, 1) := by decide +kernel
theorem dX4_readSum_16 : decode mX4_readSum.2.1 16 = .ok (.bipush 43, 2) := by decide +kernel
theorem dX4_readSum_18 : decode mX4_readSum.2.1 18 = .ok (.invokevirtual 105, 3) := by decide +kernel
theorem dX4_readSum_21 : decode mX4_readSum.2.1 21 = .ok (.ifCond .ne 12, 3) := by decide +kernel
theorem dX4_readSum_24 : decode mX4_readSum.2.1 24 = .ok (.aload_n 0, 1) := by decide +kernel
theorem dX4_readSum_25 : decode mX4_readSum.2.1 25 = .ok (.bipush 45, 2) := by decide +kernel
theorem dX4_readSum_27 : decode mX4_readSum.2.1 27 = .ok (.invokevirtual 105, 3) := by decide +kernel
theorem dX4_readSum_30 : decode mX4_readSum.2.1 30 = .ok (.ifCond .eq 42, 3) := by decide +kernel
theorem dX4_readSum_33 : decode mX4_readSum.2.1 33 = .ok (.aload_n 0, 1) := by decide +kernel
theorem dX4_readSum_34 : decode mX4_readSum.2.1 34 = .ok (.bipush 43, 2) := by decide +kernel
theorem dX4_readSum_36 : decode mX4_readSum.2.1 36 = .ok (.invokevirtual 105, 3) := by decide +kernel
theorem dX4_readSum_39 : decode mX4_readSum.2.1 39 = .ok (.ifCond .eq 7, 3) := by decide +kernel
theorem dX4_readSum_42 : decode mX4_readSum.2.1 42 = .ok (.iconst 2, 1) := by decide +kernel
theorem dX4_readSum_43 : decode mX4_readSum.2.1 43 = .ok (.goto 4, 3) := by decide +kernel
theorem dX4_readSum_46 : decode mX4_readSum.2.1 46 = .ok (.iconst 3, 1) := by decide +kernel
theorem dX4_readSum_47 : decode mX4_readSum.2.1 47 = .ok (.istore_n 3, 1) := by decide +kernel
theorem dX4_readSum_48 : decode mX4_readSum.2.1 48 = .ok (.aload_n 0, 1) := by decide +kernel
theorem dX4_readSum_49 : decode mX4_readSum.2.1 49 = .ok (.invokevirtual 61, 3) := by decide +kernel
theorem dX4_readSum_52 : decode mX4_readSum.2.1 52 = .ok (.aload_n 0, 1) := by decide +kernel
theorem dX4_readSum_53 : decode mX4_readSum.2.1 53 = .ok (.iload_n 1, 1) := by decide +kernel
theorem dX4_readSum_54 : decode mX4_readSum.2.1 54 = .ok (.invokevirtual 168, 3) := by decide +kernel
theorem dX4_readSum_57 : decode mX4_readSum.2.1 57 = .ok (.aload_n 0, 1) := by decide +kernel
theorem dX4_readSum_58 : decode mX4_readSum.2.1 58 = .ok (.getfield 57, 3) := by decide +kernel
theorem dX4_readSum_61 : decode mX4_readSum.2.1 61 = .ok (.iload_n 3, 1) := by decide +kernel
theorem dX4_readSum_62 : decode mX4_readSum.2.1 62 = .ok (.iconst 0, 1) := by decide +kernel
theorem dX4_readSum_63 : decode mX4_readSum.2.1 63 = .ok (.invokevirtual 171, 3) := by decide +kernel
theorem dX4_readSum_66 : decode mX4_readSum.2.1 66 = .ok (.iinc 2 1, 3) := by decide +kernel
theorem dX4_readSum_69 : decode mX4_readSum.2.1 69 = .ok (.goto (-62), 3) := by decide +kernel
theorem dX4_readSum_72 : decode mX4_readSum.2.1 72 = .ok (.return_, 1) := by decide +kernel
abbrev mX4_readProduct : aM := (yX4_readProduct, cX4_readProduct, 4, none)
theorem dX4_readProduct_0 : decode mX4_readProduct.2.1 0 = .ok (.aload_n 0, 1) := by decide +kernel
theorem dX4_readProduct_1 : decode mX4_readProduct.2.1 1 = .ok (.iload_n 1, 1) := by decide +kernel
theorem dX4_readProduct_2 : decode mX4_readProduct.2.1 2 = .ok (.invokevirtual 174, 3) := by decide +kernel
theorem dX4_readProduct_5 : decode mX4_readProduct.2.1 5 = .ok (.iconst 0, 1) := by decide +kernel
theorem dX4_readProduct_6 : decode mX4_readProduct.2.1 6 = .ok (.istore_n 2, 1) := by decide +kernel
theorem dX4_readProduct_7 : decode mX4_readProduct.2.1 7 = .ok (.iload_n 2, 1) := by decide +kernel
theorem dX4_readProduct_8 : decode mX4_readProduct.2.1 8 = .ok (.aload_n 0, 1) := by decide +kernel
theorem dX4_readProduct_9 : decode mX4_readProduct.2.1 9 = .ok (.getfield 49, 3) := by decide +kernel
theorem dX4_readProduct_12 : decode mX4_readProduct.2.1 12 = .ok (.if_icmp .ge 83, 3) := by decide +kernel
theorem dX4_readProduct_15 : decode mX4_readProduct.2.1 15 = .ok (.aload_n 0, 1) := by decide +kernel
theorem dX4_readProduct_16 : decode mX4_readProduct.2.1 16 = .ok (.bipush 42, 2) := by decide +kernel
theorem dX4_readProduct_18 : decode mX4_readProduct.2.1 18 = .ok (.invokevirtual 105, 3) := by decide +kernel
theorem dX4_readProduct_21 : decode mX4_readProduct.2.1 21 = .ok (.ifCond .ne 21, 3) := by decide +kernel
theorem dX4_readProduct_24 : decode mX4_readProduct.2.1 24 = .ok (.aload_n 0, 1) := by decide +kernel
theorem dX4_readProduct_25 : decode mX4_readProduct.2.1 25 = .ok (.bipush 47, 2) := by decide +kernel
theorem dX4_readProduct_27 : decode mX4_readProduct.2.1 27 = .ok (.invokevirtual 105, 3) := by decide +kernel
theorem dX4_readProduct_30 : decode mX4_readProduct.2.1 30 = .ok (.ifCond .ne 12, 3) := by decide +kernel
theorem dX4_readProduct_33 : decode mX4_readProduct.2.1 33 = .ok (.aload_n 0, 1) := by decide +kernel
theorem dX4_readProduct_34 : decode mX4_readProduct.2.1 34 = .ok (.bipush 37, 2) := by decide +kernel
theorem dX4_readProduct_36 : decode mX4_readProduct.2.1 36 = .ok (.invokevirtual 105, 3) := by decide +kernel
theorem dX4_readProduct_39 : decode mX4_readProduct.2.1 39 = .ok (.ifCond .eq 56, 3) := by decide +kernel
theorem dX4_readProduct_42 : decode mX4_readProduct.2.1 42 = .ok (.aload_n 0, 1) := by decide +kernel
theorem dX4_readProduct_43 : decode mX4_readProduct.2.1 43 = .ok (.bipush 42, 2) := by decide +kernel
theorem dX4_readProduct_45 : decode mX4_readProduct.2.1 45 = .ok (.invokevirtual 105, 3) := by decide +kernel
theorem dX4_readProduct_48 : decode mX4_readProduct.2.1 48 = .ok (.ifCond .eq 7, 3) := by decide +kernel
theorem dX4_readProduct_51 : decode mX4_readProduct.2.1 51 = .ok (.iconst 4, 1) := by decide +kernel
theorem dX4_readProduct_52 : decode mX4_readProduct.2.1 52 = .ok (.goto 18, 3) := by decide +kernel
theorem dX4_readProduct_55 : decode mX4_readProduct.2.1 55 = .ok (.aload_n 0, 1) := by decide +kernel
theorem dX4_readProduct_56 : decode mX4_readProduct.2.1 56 = .ok (.bipush 47, 2) := by decide +kernel
theorem dX4_readProduct_58 : decode mX4_readProduct.2.1 58 = .ok (.invokevirtual 105, 3) := by decide +kernel
theorem dX4_readProduct_61 : decode mX4_readProduct.2.1 61 = .ok (.ifCond .eq 7, 3) := by decide +kernel
theorem dX4_readProduct_64 : decode mX4_readProduct.2.1 64 = .ok (.iconst 5, 1) := by decide +kernel
theorem dX4_readProduct_65 : decode mX4_readProduct.2.1 65 = .ok (.goto 5, 3) := by decide +kernel
theorem dX4_readProduct_68 : decode mX4_readProduct.2.1 68 = .ok (.bipush 6, 2) := by decide +kernel
theorem dX4_readProduct_70 : decode mX4_readProduct.2.1 70 = .ok (.istore_n 3, 1) := by decide +kernel
theorem dX4_readProduct_71 : decode mX4_readProduct.2.1 71 = .ok (.aload_n 0, 1) := by decide +kernel
theorem dX4_readProduct_72 : decode mX4_readProduct.2.1 72 = .ok (.invokevirtual 61, 3) := by decide +kernel
theorem dX4_readProduct_75 : decode mX4_readProduct.2.1 75 = .ok (.aload_n 0, 1) := by decide +kernel
theorem dX4_readProduct_76 : decode mX4_readProduct.2.1 76 = .ok (.iload_n 1, 1) := by decide +kernel
theorem dX4_readProduct_77 : decode mX4_readProduct.2.1 77 = .ok (.invokevirtual 174, 3) := by decide +kernel
theorem dX4_readProduct_80 : decode mX4_readProduct.2.1 80 = .ok (.aload_n 0, 1) := by decide +kernel
theorem dX4_readProduct_81 : decode mX4_readProduct.2.1 81 = .ok (.getfield 57, 3) := by decide +kernel
theorem dX4_readProduct_84 : decode mX4_readProduct.2.1 84 = .ok (.iload_n 3, 1) := by decide +kernel
theorem dX4_readProduct_85 : decode mX4_readProduct.2.1 85 = .ok (.iconst 0, 1) := by decide +kernel
theorem dX4_readProduct_86 : decode mX4_readProduct.2.1 86 = .ok (.invokevirtual 171, 3) := by decide +kernel
theorem dX4_readProduct_89 : decode mX4_readProduct.2.1 89 = .ok (.iinc 2 1, 3) := by decide +kernel
theorem dX4_readProduct_92 : decode mX4_readProduct.2.1 92 = .ok (.goto (-85), 3) := by decide +kernel
theorem dX4_readProduct_95 : decode mX4_readProduct.2.1 95 = .ok (.return_, 1) := by decide +kernel
abbrev mX4_readPart : aM := (yX4_readPart, cX4_readPart, 2, none)
theorem dX4_readPart_0 : decode mX4_readPart.2.1 0 = .ok (.aload_n 0, 1) := by decide +kernel
theorem dX4_readPart_1 : decode mX4_readPart.2.1 1 = .ok (.getfield 24, 3) := by decide +kernel
theorem dX4_readPart_4 : decode mX4_readPart.2.1 4 = .ok (.iconst 3, 1) := by decide +kernel
theorem dX4_readPart_5 : decode mX4_readPart.2.1 5 = .ok (.if_icmp .ne 22, 3) := by decide +kernel
theorem dX4_readPart_8 : decode mX4_readPart.2.1 8 = .ok (.aload_n 0, 1) := by decide +kernel
theorem dX4_readPart_9 : decode mX4_readPart.2.1 9 = .ok (.getfield 57, 3) := by decide +kernel
theorem dX4_readPart_12 : decode mX4_readPart.2.1 12 = .ok (.iconst 0, 1) := by decide +kernel
theorem dX4_readPart_13 : decode mX4_readPart.2.1 13 = .ok (.aload_n 0, 1) := by decide +kernel
theorem dX4_readPart_14 : decode mX4_readPart.2.1 14 = .ok (.getfield 27, 3) := by decide +kernel
theorem dX4_readPart_17 : decode mX4_readPart.2.1 17 = .ok (.invokevirtual 171, 3) := by decide +kernel
theorem dX4_readPart_20 : decode mX4_readPart.2.1 20 = .ok (.aload_n 0, 1) := by decide +kernel
theorem dX4_readPart_21 : decode mX4_readPart.2.1 21 = .ok (.invokevirtual 61, 3) := by decide +kernel
theorem dX4_readPart_24 : decode mX4_readPart.2.1 24 = .ok (.goto 111, 3) := by decide +kernel
theorem dX4_readPart_27 : decode mX4_readPart.2.1 27 = .ok (.aload_n 0, 1) := by decide +kernel
theorem dX4_readPart_28 : decode mX4_readPart.2.1 28 = .ok (.getfield 24, 3) := by decide +kernel
theorem dX4_readPart_31 : decode mX4_readPart.2.1 31 = .ok (.iconst 2, 1) := by decide +kernel
theorem dX4_readPart_32 : decode mX4_readPart.2.1 32 = .ok (.if_icmp .ne 33, 3) := by decide +kernel
theorem dX4_readPart_35 : decode mX4_readPart.2.1 35 = .ok (.aload_n 0, 1) := by decide +kernel
theorem dX4_readPart_36 : decode mX4_readPart.2.1 36 = .ok (.aload_n 0, 1) := by decide +kernel
theorem dX4_readPart_37 : decode mX4_readPart.2.1 37 = .ok (.getfield 30, 3) := by decide +kernel
theorem dX4_readPart_40 : decode mX4_readPart.2.1 40 = .ok (.invokevirtual 177, 3) := by decide +kernel
theorem dX4_readPart_43 : decode mX4_readPart.2.1 43 = .ok (.ifCond .eq 22, 3) := by decide +kernel
theorem dX4_readPart_46 : decode mX4_readPart.2.1 46 = .ok (.aload_n 0, 1) := by decide +kernel
theorem dX4_readPart_47 : decode mX4_readPart.2.1 47 = .ok (.getfield 57, 3) := by decide +kernel
theorem dX4_readPart_50 : decode mX4_readPart.2.1 50 = .ok (.iconst 1, 1) := by decide +kernel
theorem dX4_readPart_51 : decode mX4_readPart.2.1 51 = .ok (.aload_n 0, 1) := by decide +kernel
theorem dX4_readPart_52 : decode mX4_readPart.2.1 52 = .ok (.getfield 30, 3) := by decide +kernel
theorem dX4_readPart_55 : decode mX4_readPart.2.1 55 = .ok (.invokevirtual 171, 3) := by decide +kernel
theorem dX4_readPart_58 : decode mX4_readPart.2.1 58 = .ok (.aload_n 0, 1) := by decide +kernel
theorem dX4_readPart_59 : decode mX4_readPart.2.1 59 = .ok (.invokevirtual 61, 3) := by decide +kernel
theorem dX4_readPart_62 : decode mX4_readPart.2.1 62 = .ok (.goto 73, 3) := by decide +kernel
theorem dX4_readPart_65 : decode mX4_readPart.2.1 65 = .ok (.aload_n 0, 1) := by decide +kernel
theorem dX4_readPart_66 : decode mX4_readPart.2.1 66 = .ok (.bipush 25, 2) := by decide +kernel
theorem dX4_readPart_68 : decode mX4_readPart.2.1 68 = .ok (.invokevirtual 102, 3) := by decide +kernel
theorem dX4_readPart_71 : decode mX4_readPart.2.1 71 = .ok (.ifCond .ne 12, 3) := by decide +kernel
theorem dX4_readPart_74 : decode mX4_readPart.2.1 74 = .ok (.aload_n 0, 1) := by decide +kernel
theorem dX4_readPart_75 : decode mX4_readPart.2.1 75 = .ok (.bipush 26, 2) := by decide +kernel
theorem dX4_readPart_77 : decode mX4_readPart.2.1 77 = .ok (.invokevirtual 102, 3) := by decide +kernel
theorem dX4_readPart_80 : decode mX4_readPart.2.1 80 = .ok (.ifCond .eq 11, 3) := by decide +kernel
theorem dX4_readPart_83 : decode mX4_readPart.2.1 83 = .ok (.aload_n 0, 1) := by decide +kernel
theorem dX4_readPart_84 : decode mX4_readPart.2.1 84 = .ok (.iload_n 1, 1) := by decide +kernel
theorem dX4_readPart_85 : decode mX4_readPart.2.1 85 = .ok (.invokevirtual 180, 3) := by decide +kernel
theorem dX4_readPart_88 : decode mX4_readPart.2.1 88 = .ok (.goto 47, 3) := by decide +kernel
theorem dX4_readPart_91 : decode mX4_readPart.2.1 91 = .ok (.aload_n 0, 1) := by decide +kernel
theorem dX4_readPart_92 : decode mX4_readPart.2.1 92 = .ok (.bipush 20, 2) := by decide +kernel
theorem dX4_readPart_94 : decode mX4_readPart.2.1 94 = .ok (.invokevirtual 102, 3) := by decide +kernel
theorem dX4_readPart_97 : decode mX4_readPart.2.1 97 = .ok (.ifCond .eq 11, 3) := by decide +kernel
theorem dX4_readPart_100 : decode mX4_readPart.2.1 100 = .ok (.aload_n 0, 1) := by decide +kernel
theorem dX4_readPart_101 : decode mX4_readPart.2.1 101 = .ok (.iload_n 1, 1) := by decide +kernel
theorem dX4_readPart_102 : decode mX4_readPart.2.1 102 = .ok (.invokevirtual 183, 3) := by decide +kernel
theorem dX4_readPart_105 : decode mX4_readPart.2.1 105 = .ok (.goto 30, 3) := by decide +kernel
theorem dX4_readPart_108 : decode mX4_readPart.2.1 108 = .ok (.aload_n 0, 1) := by decide +kernel
theorem dX4_readPart_109 : decode mX4_readPart.2.1 109 = .ok (.iload_n 1, 1) := by decide +kernel
theorem dX4_readPart_110 : decode mX4_readPart.2.1 110 = .ok (.aload_n 0, 1) := by decide +kernel
theorem dX4_readPart_111 : decode mX4_readPart.2.1 111 = .ok (.bipush 40, 2) := by decide +kernel
theorem dX4_readPart_113 : decode mX4_readPart.2.1 113 = .ok (.invokevirtual 105, 3) := by decide +kernel
theorem dX4_readPart_116 : decode mX4_readPart.2.1 116 = .ok (.invokevirtual 186, 3) := by decide +kernel
theorem dX4_readPart_119 : decode mX4_readPart.2.1 119 = .ok (.ifCond .eq 16, 3) := by decide +kernel
theorem dX4_readPart_122 : decode mX4_readPart.2.1 122 = .ok (.aload_n 0, 1) := by decide +kernel
theorem dX4_readPart_123 : decode mX4_readPart.2.1 123 = .ok (.iload_n 1, 1) := by decide +kernel
theorem dX4_readPart_124 : decode mX4_readPart.2.1 124 = .ok (.iconst 1, 1) := by decide +kernel
theorem dX4_readPart_125 : decode mX4_readPart.2.1 125 = .ok (.iadd, 1) := by decide +kernel
theorem dX4_readPart_126 : decode mX4_readPart.2.1 126 = .ok (.invokevirtual 133, 3) := by decide +kernel
theorem dX4_readPart_129 : decode mX4_readPart.2.1 129 = .ok (.aload_n 0, 1) := by decide +kernel
theorem dX4_readPart_130 : decode mX4_readPart.2.1 130 = .ok (.bipush 41, 2) := by decide +kernel
theorem dX4_readPart_132 : decode mX4_readPart.2.1 132 = .ok (.invokevirtual 145, 3) := by decide +kernel
theorem dX4_readPart_135 : decode mX4_readPart.2.1 135 = .ok (.return_, 1) := by decide +kernel
abbrev mX4_mayStand : aM := (yX4_mayStand, cX4_mayStand, 2, (some .boolean))
theorem dX4_mayStand_0 : decode mX4_mayStand.2.1 0 = .ok (.iload_n 1, 1) := by decide +kernel
theorem dX4_mayStand_1 : decode mX4_mayStand.2.1 1 = .ok (.tableswitch 141 1 19 #[91, 91, 141, 91, 91, 141, 117, 117, 141, 141, 141, 141, 141, 91, 141, 91, 93, 93, 117], 91) := by decide +kernel
theorem dX4_mayStand_92 : decode mX4_mayStand.2.1 92 = .ok (.iconst 1, 1) := by decide +kernel
theorem dX4_mayStand_93 : decode mX4_mayStand.2.1 93 = .ok (.ireturn, 1) := by decide +kernel
theorem dX4_mayStand_94 : decode mX4_mayStand.2.1 94 = .ok (.aload_n 0, 1) := by decide +kernel
theorem dX4_mayStand_95 : decode mX4_mayStand.2.1 95 = .ok (.getfield 33, 3) := by decide +kernel
theorem dX4_mayStand_98 : decode mX4_mayStand.2.1 98 = .ok (.bipush 9, 2) := by decide +kernel
theorem dX4_mayStand_100 : decode mX4_mayStand.2.1 100 = .ok (.if_icmp .eq 12, 3) := by decide +kernel
theorem dX4_mayStand_103 : decode mX4_mayStand.2.1 103 = .ok (.aload_n 0, 1) := by decide +kernel
theorem dX4_mayStand_104 : decode mX4_mayStand.2.1 104 = .ok (.getfield 33, 3) := by decide +kernel
theorem dX4_mayStand_107 : decode mX4_mayStand.2.1 107 = .ok (.bipush 10, 2) := by decide +kernel
theorem dX4_mayStand_109 : decode mX4_mayStand.2.1 109 = .ok (.if_icmp .ne 7, 3) := by decide +kernel
theorem dX4_mayStand_112 : decode mX4_mayStand.2.1 112 = .ok (.iconst 1, 1) := by decide +kernel
theorem dX4_mayStand_113 : decode mX4_mayStand.2.1 113 = .ok (.goto 4, 3) := by decide +kernel
theorem dX4_mayStand_116 : decode mX4_mayStand.2.1 116 = .ok (.iconst 0, 1) := by decide +kernel
theorem dX4_mayStand_117 : decode mX4_mayStand.2.1 117 = .ok (.ireturn, 1) := by decide +kernel
theorem dX4_mayStand_118 : decode mX4_mayStand.2.1 118 = .ok (.aload_n 0, 1) := by decide +kernel
theorem dX4_mayStand_119 : decode mX4_mayStand.2.1 119 = .ok (.getfield 33, 3) := by decide +kernel
theorem dX4_mayStand_122 : decode mX4_mayStand.2.1 122 = .ok (.bipush 11, 2) := by decide +kernel
theorem dX4_mayStand_124 : decode mX4_mayStand.2.1 124 = .ok (.if_icmp .eq 12, 3) := by decide +kernel
theorem dX4_mayStand_127 : decode mX4_mayStand.2.1 127 = .ok (.aload_n 0, 1) := by decide +kernel
theorem dX4_mayStand_128 : decode mX4_mayStand.2.1 128 = .ok (.getfield 33, 3) := by decide +kernel
theorem dX4_mayStand_131 : decode mX4_mayStand.2.1 131 = .ok (.bipush 12, 2) := by decide +kernel
theorem dX4_mayStand_133 : decode mX4_mayStand.2.1 133 = .ok (.if_icmp .ne 7, 3) := by decide +kernel
theorem dX4_mayStand_136 : decode mX4_mayStand.2.1 136 = .ok (.iconst 1, 1) := by decide +kernel
theorem dX4_mayStand_137 : decode mX4_mayStand.2.1 137 = .ok (.goto 4, 3) := by decide +kernel
theorem dX4_mayStand_140 : decode mX4_mayStand.2.1 140 = .ok (.iconst 0, 1) := by decide +kernel
theorem dX4_mayStand_141 : decode mX4_mayStand.2.1 141 = .ok (.ireturn, 1) := by decide +kernel
theorem dX4_mayStand_142 : decode mX4_mayStand.2.1 142 = .ok (.iconst 0, 1) := by decide +kernel
theorem dX4_mayStand_143 : decode mX4_mayStand.2.1 143 = .ok (.ireturn, 1) := by decide +kernel
abbrev mX4_readLesserOrGreater : aM := (yX4_readLesserOrGreater, cX4_readLesserOrGreater, 3, none)
theorem dX4_readLesserOrGreater_0 : decode mX4_readLesserOrGreater.2.1 0 = .ok (.aload_n 0, 1) := by decide +kernel
theorem dX4_readLesserOrGreater_1 : decode mX4_readLesserOrGreater.2.1 1 = .ok (.bipush 25, 2) := by decide +kernel
theorem dX4_readLesserOrGreater_3 : decode mX4_readLesserOrGreater.2.1 3 = .ok (.invokevirtual 102, 3) := by decide +kernel
theorem dX4_readLesserOrGreater_6 : decode mX4_readLesserOrGreater.2.1 6 = .ok (.ifCond .eq 8, 3) := by decide +kernel
theorem dX4_readLesserOrGreater_9 : decode mX4_readLesserOrGreater.2.1 9 = .ok (.bipush 7, 2) := by decide +kernel
theorem dX4_readLesserOrGreater_11 : decode mX4_readLesserOrGreater.2.1 11 = .ok (.goto 5, 3) := by decide +kernel
theorem dX4_readLesserOrGreater_14 : decode mX4_readLesserOrGreater.2.1 14 = .ok (.bipush 8, 2) := by decide +kernel
theorem dX4_readLesserOrGreater_16 : decode mX4_readLesserOrGreater.2.1 16 = .ok (.istore_n 2, 1) := by decide +kernel
theorem dX4_readLesserOrGreater_17 : decode mX4_readLesserOrGreater.2.1 17 = .ok (.aload_n 0, 1) := by decide +kernel
theorem dX4_readLesserOrGreater_18 : decode mX4_readLesserOrGreater.2.1 18 = .ok (.invokevirtual 61, 3) := by decide +kernel
theorem dX4_readLesserOrGreater_21 : decode mX4_readLesserOrGreater.2.1 21 = .ok (.aload_n 0, 1) := by decide +kernel
theorem dX4_readLesserOrGreater_22 : decode mX4_readLesserOrGreater.2.1 22 = .ok (.iload_n 1, 1) := by decide +kernel
theorem dX4_readLesserOrGreater_23 : decode mX4_readLesserOrGreater.2.1 23 = .ok (.aload_n 0, 1) := by decide +kernel
theorem dX4_readLesserOrGreater_24 : decode mX4_readLesserOrGreater.2.1 24 = .ok (.bipush 40, 2) := by decide +kernel
theorem dX4_readLesserOrGreater_26 : decode mX4_readLesserOrGreater.2.1 26 = .ok (.invokevirtual 105, 3) := by decide +kernel
theorem dX4_readLesserOrGreater_29 : decode mX4_readLesserOrGreater.2.1 29 = .ok (.invokevirtual 186, 3) := by decide +kernel
theorem dX4_readLesserOrGreater_32 : decode mX4_readLesserOrGreater.2.1 32 = .ok (.ifCond .eq 38, 3) := by decide +kernel
theorem dX4_readLesserOrGreater_35 : decode mX4_readLesserOrGreater.2.1 35 = .ok (.aload_n 0, 1) := by decide +kernel
theorem dX4_readLesserOrGreater_36 : decode mX4_readLesserOrGreater.2.1 36 = .ok (.iload_n 1, 1) := by decide +kernel
theorem dX4_readLesserOrGreater_37 : decode mX4_readLesserOrGreater.2.1 37 = .ok (.iconst 1, 1) := by decide +kernel
theorem dX4_readLesserOrGreater_38 : decode mX4_readLesserOrGreater.2.1 38 = .ok (.iadd, 1) := by decide +kernel
theorem dX4_readLesserOrGreater_39 : decode mX4_readLesserOrGreater.2.1 39 = .ok (.invokevirtual 133, 3) := by decide +kernel
theorem dX4_readLesserOrGreater_42 : decode mX4_readLesserOrGreater.2.1 42 = .ok (.aload_n 0, 1) := by decide +kernel
theorem dX4_readLesserOrGreater_43 : decode mX4_readLesserOrGreater.2.1 43 = .ok (.bipush 44, 2) := by decide +kernel
theorem dX4_readLesserOrGreater_45 : decode mX4_readLesserOrGreater.2.1 45 = .ok (.invokevirtual 145, 3) := by decide +kernel
theorem dX4_readLesserOrGreater_48 : decode mX4_readLesserOrGreater.2.1 48 = .ok (.aload_n 0, 1) := by decide +kernel
theorem dX4_readLesserOrGreater_49 : decode mX4_readLesserOrGreater.2.1 49 = .ok (.iload_n 1, 1) := by decide +kernel
theorem dX4_readLesserOrGreater_50 : decode mX4_readLesserOrGreater.2.1 50 = .ok (.iconst 1, 1) := by decide +kernel
theorem dX4_readLesserOrGreater_51 : decode mX4_readLesserOrGreater.2.1 51 = .ok (.iadd, 1) := by decide +kernel
theorem dX4_readLesserOrGreater_52 : decode mX4_readLesserOrGreater.2.1 52 = .ok (.invokevirtual 133, 3) := by decide +kernel
theorem dX4_readLesserOrGreater_55 : decode mX4_readLesserOrGreater.2.1 55 = .ok (.aload_n 0, 1) := by decide +kernel
theorem dX4_readLesserOrGreater_56 : decode mX4_readLesserOrGreater.2.1 56 = .ok (.bipush 41, 2) := by decide +kernel
theorem dX4_readLesserOrGreater_58 : decode mX4_readLesserOrGreater.2.1 58 = .ok (.invokevirtual 145, 3) := by decide +kernel
theorem dX4_readLesserOrGreater_61 : decode mX4_readLesserOrGreater.2.1 61 = .ok (.aload_n 0, 1) := by decide +kernel
theorem dX4_readLesserOrGreater_62 : decode mX4_readLesserOrGreater.2.1 62 = .ok (.getfield 57, 3) := by decide +kernel
theorem dX4_readLesserOrGreater_65 : decode mX4_readLesserOrGreater.2.1 65 = .ok (.iload_n 2, 1) := by decide +kernel
theorem dX4_readLesserOrGreater_66 : decode mX4_readLesserOrGreater.2.1 66 = .ok (.iconst 0, 1) := by decide +kernel
theorem dX4_readLesserOrGreater_67 : decode mX4_readLesserOrGreater.2.1 67 = .ok (.invokevirtual 171, 3) := by decide +kernel
theorem dX4_readLesserOrGreater_70 : decode mX4_readLesserOrGreater.2.1 70 = .ok (.return_, 1) := by decide +kernel
abbrev mX4_readChoice : aM := (yX4_readChoice, cX4_readChoice, 2, none)
theorem dX4_readChoice_0 : decode mX4_readChoice.2.1 0 = .ok (.aload_n 0, 1) := by decide +kernel
theorem dX4_readChoice_1 : decode mX4_readChoice.2.1 1 = .ok (.invokevirtual 61, 3) := by decide +kernel
theorem dX4_readChoice_4 : decode mX4_readChoice.2.1 4 = .ok (.aload_n 0, 1) := by decide +kernel
theorem dX4_readChoice_5 : decode mX4_readChoice.2.1 5 = .ok (.iload_n 1, 1) := by decide +kernel
theorem dX4_readChoice_6 : decode mX4_readChoice.2.1 6 = .ok (.aload_n 0, 1) := by decide +kernel
theorem dX4_readChoice_7 : decode mX4_readChoice.2.1 7 = .ok (.bipush 40, 2) := by decide +kernel
theorem dX4_readChoice_9 : decode mX4_readChoice.2.1 9 = .ok (.invokevirtual 105, 3) := by decide +kernel
theorem dX4_readChoice_12 : decode mX4_readChoice.2.1 12 = .ok (.invokevirtual 186, 3) := by decide +kernel
theorem dX4_readChoice_15 : decode mX4_readChoice.2.1 15 = .ok (.ifCond .eq 52, 3) := by decide +kernel
theorem dX4_readChoice_18 : decode mX4_readChoice.2.1 18 = .ok (.aload_n 0, 1) := by decide +kernel
theorem dX4_readChoice_19 : decode mX4_readChoice.2.1 19 = .ok (.iload_n 1, 1) := by decide +kernel
theorem dX4_readChoice_20 : decode mX4_readChoice.2.1 20 = .ok (.iconst 1, 1) := by decide +kernel
theorem dX4_readChoice_21 : decode mX4_readChoice.2.1 21 = .ok (.iadd, 1) := by decide +kernel
theorem dX4_readChoice_22 : decode mX4_readChoice.2.1 22 = .ok (.invokevirtual 130, 3) := by decide +kernel
theorem dX4_readChoice_25 : decode mX4_readChoice.2.1 25 = .ok (.aload_n 0, 1) := by decide +kernel
theorem dX4_readChoice_26 : decode mX4_readChoice.2.1 26 = .ok (.bipush 44, 2) := by decide +kernel
theorem dX4_readChoice_28 : decode mX4_readChoice.2.1 28 = .ok (.invokevirtual 145, 3) := by decide +kernel
theorem dX4_readChoice_31 : decode mX4_readChoice.2.1 31 = .ok (.aload_n 0, 1) := by decide +kernel
theorem dX4_readChoice_32 : decode mX4_readChoice.2.1 32 = .ok (.iload_n 1, 1) := by decide +kernel
theorem dX4_readChoice_33 : decode mX4_readChoice.2.1 33 = .ok (.iconst 1, 1) := by decide +kernel
theorem dX4_readChoice_34 : decode mX4_readChoice.2.1 34 = .ok (.iadd, 1) := by decide +kernel
theorem dX4_readChoice_35 : decode mX4_readChoice.2.1 35 = .ok (.invokevirtual 133, 3) := by decide +kernel
theorem dX4_readChoice_38 : decode mX4_readChoice.2.1 38 = .ok (.aload_n 0, 1) := by decide +kernel
theorem dX4_readChoice_39 : decode mX4_readChoice.2.1 39 = .ok (.bipush 44, 2) := by decide +kernel
theorem dX4_readChoice_41 : decode mX4_readChoice.2.1 41 = .ok (.invokevirtual 145, 3) := by decide +kernel
theorem dX4_readChoice_44 : decode mX4_readChoice.2.1 44 = .ok (.aload_n 0, 1) := by decide +kernel
theorem dX4_readChoice_45 : decode mX4_readChoice.2.1 45 = .ok (.iload_n 1, 1) := by decide +kernel
theorem dX4_readChoice_46 : decode mX4_readChoice.2.1 46 = .ok (.iconst 1, 1) := by decide +kernel
theorem dX4_readChoice_47 : decode mX4_readChoice.2.1 47 = .ok (.iadd, 1) := by decide +kernel
theorem dX4_readChoice_48 : decode mX4_readChoice.2.1 48 = .ok (.invokevirtual 133, 3) := by decide +kernel
theorem dX4_readChoice_51 : decode mX4_readChoice.2.1 51 = .ok (.aload_n 0, 1) := by decide +kernel
theorem dX4_readChoice_52 : decode mX4_readChoice.2.1 52 = .ok (.bipush 41, 2) := by decide +kernel
theorem dX4_readChoice_54 : decode mX4_readChoice.2.1 54 = .ok (.invokevirtual 145, 3) := by decide +kernel
theorem dX4_readChoice_57 : decode mX4_readChoice.2.1 57 = .ok (.aload_n 0, 1) := by decide +kernel
theorem dX4_readChoice_58 : decode mX4_readChoice.2.1 58 = .ok (.getfield 57, 3) := by decide +kernel
theorem dX4_readChoice_61 : decode mX4_readChoice.2.1 61 = .ok (.bipush 15, 2) := by decide +kernel
theorem dX4_readChoice_63 : decode mX4_readChoice.2.1 63 = .ok (.iconst 0, 1) := by decide +kernel
theorem dX4_readChoice_64 : decode mX4_readChoice.2.1 64 = .ok (.invokevirtual 171, 3) := by decide +kernel
theorem dX4_readChoice_67 : decode mX4_readChoice.2.1 67 = .ok (.return_, 1) := by decide +kernel
abbrev mX4_takeOpener : aM := (yX4_takeOpener, cX4_takeOpener, 3, (some .boolean))
theorem dX4_takeOpener_0 : decode mX4_takeOpener.2.1 0 = .ok (.iload_n 2, 1) := by decide +kernel
theorem dX4_takeOpener_1 : decode mX4_takeOpener.2.1 1 = .ok (.ifCond .ne 14, 3) := by decide +kernel
theorem dX4_takeOpener_4 : decode mX4_takeOpener.2.1 4 = .ok (.aload_n 0, 1) := by decide +kernel
theorem dX4_takeOpener_5 : decode mX4_takeOpener.2.1 5 = .ok (.iconst 1, 1) := by decide +kernel
theorem dX4_takeOpener_6 : decode mX4_takeOpener.2.1 6 = .ok (.aload_n 0, 1) := by decide +kernel
theorem dX4_takeOpener_7 : decode mX4_takeOpener.2.1 7 = .ok (.getfield 21, 3) := by decide +kernel
theorem dX4_takeOpener_10 : decode mX4_takeOpener.2.1 10 = .ok (.invokevirtual 77, 3) := by decide +kernel
theorem dX4_takeOpener_13 : decode mX4_takeOpener.2.1 13 = .ok (.iconst 0, 1) := by decide +kernel
theorem dX4_takeOpener_14 : decode mX4_takeOpener.2.1 14 = .ok (.ireturn, 1) := by decide +kernel
theorem dX4_takeOpener_15 : decode mX4_takeOpener.2.1 15 = .ok (.iload_n 1, 1) := by decide +kernel
theorem dX4_takeOpener_16 : decode mX4_takeOpener.2.1 16 = .ok (.bipush 7, 2) := by decide +kernel
theorem dX4_takeOpener_18 : decode mX4_takeOpener.2.1 18 = .ok (.if_icmp .lt 14, 3) := by decide +kernel
theorem dX4_takeOpener_21 : decode mX4_takeOpener.2.1 21 = .ok (.aload_n 0, 1) := by decide +kernel
theorem dX4_takeOpener_22 : decode mX4_takeOpener.2.1 22 = .ok (.iconst 5, 1) := by decide +kernel
theorem dX4_takeOpener_23 : decode mX4_takeOpener.2.1 23 = .ok (.aload_n 0, 1) := by decide +kernel
theorem dX4_takeOpener_24 : decode mX4_takeOpener.2.1 24 = .ok (.getfield 21, 3) := by decide +kernel
theorem dX4_takeOpener_27 : decode mX4_takeOpener.2.1 27 = .ok (.invokevirtual 77, 3) := by decide +kernel
theorem dX4_takeOpener_30 : decode mX4_takeOpener.2.1 30 = .ok (.iconst 0, 1) := by decide +kernel
theorem dX4_takeOpener_31 : decode mX4_takeOpener.2.1 31 = .ok (.ireturn, 1) := by decide +kernel
theorem dX4_takeOpener_32 : decode mX4_takeOpener.2.1 32 = .ok (.aload_n 0, 1) := by decide +kernel
theorem dX4_takeOpener_33 : decode mX4_takeOpener.2.1 33 = .ok (.invokevirtual 61, 3) := by decide +kernel
theorem dX4_takeOpener_36 : decode mX4_takeOpener.2.1 36 = .ok (.iconst 1, 1) := by decide +kernel
theorem dX4_takeOpener_37 : decode mX4_takeOpener.2.1 37 = .ok (.ireturn, 1) := by decide +kernel
abbrev mX4_readTest : aM := (yX4_readTest, cX4_readTest, 3, none)
theorem dX4_readTest_0 : decode mX4_readTest.2.1 0 = .ok (.aload_n 0, 1) := by decide +kernel
theorem dX4_readTest_1 : decode mX4_readTest.2.1 1 = .ok (.iload_n 1, 1) := by decide +kernel
theorem dX4_readTest_2 : decode mX4_readTest.2.1 2 = .ok (.invokevirtual 190, 3) := by decide +kernel
theorem dX4_readTest_5 : decode mX4_readTest.2.1 5 = .ok (.iconst 0, 1) := by decide +kernel
theorem dX4_readTest_6 : decode mX4_readTest.2.1 6 = .ok (.istore_n 2, 1) := by decide +kernel
theorem dX4_readTest_7 : decode mX4_readTest.2.1 7 = .ok (.iload_n 2, 1) := by decide +kernel
theorem dX4_readTest_8 : decode mX4_readTest.2.1 8 = .ok (.aload_n 0, 1) := by decide +kernel
theorem dX4_readTest_9 : decode mX4_readTest.2.1 9 = .ok (.getfield 49, 3) := by decide +kernel
theorem dX4_readTest_12 : decode mX4_readTest.2.1 12 = .ok (.if_icmp .ge 37, 3) := by decide +kernel
theorem dX4_readTest_15 : decode mX4_readTest.2.1 15 = .ok (.aload_n 0, 1) := by decide +kernel
theorem dX4_readTest_16 : decode mX4_readTest.2.1 16 = .ok (.bipush 21, 2) := by decide +kernel
theorem dX4_readTest_18 : decode mX4_readTest.2.1 18 = .ok (.invokevirtual 102, 3) := by decide +kernel
theorem dX4_readTest_21 : decode mX4_readTest.2.1 21 = .ok (.ifCond .eq 28, 3) := by decide +kernel
theorem dX4_readTest_24 : decode mX4_readTest.2.1 24 = .ok (.aload_n 0, 1) := by decide +kernel
theorem dX4_readTest_25 : decode mX4_readTest.2.1 25 = .ok (.invokevirtual 61, 3) := by decide +kernel
theorem dX4_readTest_28 : decode mX4_readTest.2.1 28 = .ok (.aload_n 0, 1) := by decide +kernel
theorem dX4_readTest_29 : decode mX4_readTest.2.1 29 = .ok (.iload_n 1, 1) := by decide +kernel
theorem dX4_readTest_30 : decode mX4_readTest.2.1 30 = .ok (.invokevirtual 190, 3) := by decide +kernel
theorem dX4_readTest_33 : decode mX4_readTest.2.1 33 = .ok (.aload_n 0, 1) := by decide +kernel
theorem dX4_readTest_34 : decode mX4_readTest.2.1 34 = .ok (.getfield 57, 3) := by decide +kernel
theorem dX4_readTest_37 : decode mX4_readTest.2.1 37 = .ok (.bipush 12, 2) := by decide +kernel
theorem dX4_readTest_39 : decode mX4_readTest.2.1 39 = .ok (.iconst 0, 1) := by decide +kernel
theorem dX4_readTest_40 : decode mX4_readTest.2.1 40 = .ok (.invokevirtual 171, 3) := by decide +kernel
theorem dX4_readTest_43 : decode mX4_readTest.2.1 43 = .ok (.iinc 2 1, 3) := by decide +kernel
theorem dX4_readTest_46 : decode mX4_readTest.2.1 46 = .ok (.goto (-39), 3) := by decide +kernel
theorem dX4_readTest_49 : decode mX4_readTest.2.1 49 = .ok (.return_, 1) := by decide +kernel
abbrev mX4_readBoth : aM := (yX4_readBoth, cX4_readBoth, 3, none)
theorem dX4_readBoth_0 : decode mX4_readBoth.2.1 0 = .ok (.aload_n 0, 1) := by decide +kernel
theorem dX4_readBoth_1 : decode mX4_readBoth.2.1 1 = .ok (.iload_n 1, 1) := by decide +kernel
theorem dX4_readBoth_2 : decode mX4_readBoth.2.1 2 = .ok (.invokevirtual 193, 3) := by decide +kernel
theorem dX4_readBoth_5 : decode mX4_readBoth.2.1 5 = .ok (.iconst 0, 1) := by decide +kernel
theorem dX4_readBoth_6 : decode mX4_readBoth.2.1 6 = .ok (.istore_n 2, 1) := by decide +kernel
theorem dX4_readBoth_7 : decode mX4_readBoth.2.1 7 = .ok (.iload_n 2, 1) := by decide +kernel
theorem dX4_readBoth_8 : decode mX4_readBoth.2.1 8 = .ok (.aload_n 0, 1) := by decide +kernel
theorem dX4_readBoth_9 : decode mX4_readBoth.2.1 9 = .ok (.getfield 49, 3) := by decide +kernel
theorem dX4_readBoth_12 : decode mX4_readBoth.2.1 12 = .ok (.if_icmp .ge 37, 3) := by decide +kernel
theorem dX4_readBoth_15 : decode mX4_readBoth.2.1 15 = .ok (.aload_n 0, 1) := by decide +kernel
theorem dX4_readBoth_16 : decode mX4_readBoth.2.1 16 = .ok (.bipush 22, 2) := by decide +kernel
theorem dX4_readBoth_18 : decode mX4_readBoth.2.1 18 = .ok (.invokevirtual 102, 3) := by decide +kernel
theorem dX4_readBoth_21 : decode mX4_readBoth.2.1 21 = .ok (.ifCond .eq 28, 3) := by decide +kernel
theorem dX4_readBoth_24 : decode mX4_readBoth.2.1 24 = .ok (.aload_n 0, 1) := by decide +kernel
theorem dX4_readBoth_25 : decode mX4_readBoth.2.1 25 = .ok (.invokevirtual 61, 3) := by decide +kernel
theorem dX4_readBoth_28 : decode mX4_readBoth.2.1 28 = .ok (.aload_n 0, 1) := by decide +kernel
theorem dX4_readBoth_29 : decode mX4_readBoth.2.1 29 = .ok (.iload_n 1, 1) := by decide +kernel
theorem dX4_readBoth_30 : decode mX4_readBoth.2.1 30 = .ok (.invokevirtual 193, 3) := by decide +kernel
theorem dX4_readBoth_33 : decode mX4_readBoth.2.1 33 = .ok (.aload_n 0, 1) := by decide +kernel
theorem dX4_readBoth_34 : decode mX4_readBoth.2.1 34 = .ok (.getfield 57, 3) := by decide +kernel
theorem dX4_readBoth_37 : decode mX4_readBoth.2.1 37 = .ok (.bipush 13, 2) := by decide +kernel
theorem dX4_readBoth_39 : decode mX4_readBoth.2.1 39 = .ok (.iconst 0, 1) := by decide +kernel
theorem dX4_readBoth_40 : decode mX4_readBoth.2.1 40 = .ok (.invokevirtual 171, 3) := by decide +kernel
theorem dX4_readBoth_43 : decode mX4_readBoth.2.1 43 = .ok (.iinc 2 1, 3) := by decide +kernel
theorem dX4_readBoth_46 : decode mX4_readBoth.2.1 46 = .ok (.goto (-39), 3) := by decide +kernel
theorem dX4_readBoth_49 : decode mX4_readBoth.2.1 49 = .ok (.return_, 1) := by decide +kernel
abbrev mX4_readFact : aM := (yX4_readFact, cX4_readFact, 2, none)
theorem dX4_readFact_0 : decode mX4_readFact.2.1 0 = .ok (.aload_n 0, 1) := by decide +kernel
theorem dX4_readFact_1 : decode mX4_readFact.2.1 1 = .ok (.bipush 23, 2) := by decide +kernel
theorem dX4_readFact_3 : decode mX4_readFact.2.1 3 = .ok (.invokevirtual 102, 3) := by decide +kernel
theorem dX4_readFact_6 : decode mX4_readFact.2.1 6 = .ok (.ifCond .eq 32, 3) := by decide +kernel
theorem dX4_readFact_9 : decode mX4_readFact.2.1 9 = .ok (.aload_n 0, 1) := by decide +kernel
theorem dX4_readFact_10 : decode mX4_readFact.2.1 10 = .ok (.iload_n 1, 1) := by decide +kernel
theorem dX4_readFact_11 : decode mX4_readFact.2.1 11 = .ok (.iconst 1, 1) := by decide +kernel
theorem dX4_readFact_12 : decode mX4_readFact.2.1 12 = .ok (.invokevirtual 186, 3) := by decide +kernel
theorem dX4_readFact_15 : decode mX4_readFact.2.1 15 = .ok (.ifCond .eq 87, 3) := by decide +kernel
theorem dX4_readFact_18 : decode mX4_readFact.2.1 18 = .ok (.aload_n 0, 1) := by decide +kernel
theorem dX4_readFact_19 : decode mX4_readFact.2.1 19 = .ok (.iload_n 1, 1) := by decide +kernel
theorem dX4_readFact_20 : decode mX4_readFact.2.1 20 = .ok (.iconst 1, 1) := by decide +kernel
theorem dX4_readFact_21 : decode mX4_readFact.2.1 21 = .ok (.iadd, 1) := by decide +kernel
theorem dX4_readFact_22 : decode mX4_readFact.2.1 22 = .ok (.invokevirtual 193, 3) := by decide +kernel
theorem dX4_readFact_25 : decode mX4_readFact.2.1 25 = .ok (.aload_n 0, 1) := by decide +kernel
theorem dX4_readFact_26 : decode mX4_readFact.2.1 26 = .ok (.getfield 57, 3) := by decide +kernel
theorem dX4_readFact_29 : decode mX4_readFact.2.1 29 = .ok (.bipush 14, 2) := by decide +kernel
theorem dX4_readFact_31 : decode mX4_readFact.2.1 31 = .ok (.iconst 0, 1) := by decide +kernel
theorem dX4_readFact_32 : decode mX4_readFact.2.1 32 = .ok (.invokevirtual 171, 3) := by decide +kernel
theorem dX4_readFact_35 : decode mX4_readFact.2.1 35 = .ok (.goto 67, 3) := by decide +kernel
theorem dX4_readFact_38 : decode mX4_readFact.2.1 38 = .ok (.aload_n 0, 1) := by decide +kernel
theorem dX4_readFact_39 : decode mX4_readFact.2.1 39 = .ok (.bipush 91, 2) := by decide +kernel
theorem dX4_readFact_41 : decode mX4_readFact.2.1 41 = .ok (.invokevirtual 105, 3) := by decide +kernel
theorem dX4_readFact_44 : decode mX4_readFact.2.1 44 = .ok (.ifCond .eq 28, 3) := by decide +kernel
theorem dX4_readFact_47 : decode mX4_readFact.2.1 47 = .ok (.aload_n 0, 1) := by decide +kernel
theorem dX4_readFact_48 : decode mX4_readFact.2.1 48 = .ok (.iload_n 1, 1) := by decide +kernel
theorem dX4_readFact_49 : decode mX4_readFact.2.1 49 = .ok (.iconst 1, 1) := by decide +kernel
theorem dX4_readFact_50 : decode mX4_readFact.2.1 50 = .ok (.invokevirtual 186, 3) := by decide +kernel
theorem dX4_readFact_53 : decode mX4_readFact.2.1 53 = .ok (.ifCond .eq 49, 3) := by decide +kernel
theorem dX4_readFact_56 : decode mX4_readFact.2.1 56 = .ok (.aload_n 0, 1) := by decide +kernel
theorem dX4_readFact_57 : decode mX4_readFact.2.1 57 = .ok (.iload_n 1, 1) := by decide +kernel
theorem dX4_readFact_58 : decode mX4_readFact.2.1 58 = .ok (.iconst 1, 1) := by decide +kernel
theorem dX4_readFact_59 : decode mX4_readFact.2.1 59 = .ok (.iadd, 1) := by decide +kernel
theorem dX4_readFact_60 : decode mX4_readFact.2.1 60 = .ok (.invokevirtual 130, 3) := by decide +kernel
theorem dX4_readFact_63 : decode mX4_readFact.2.1 63 = .ok (.aload_n 0, 1) := by decide +kernel
theorem dX4_readFact_64 : decode mX4_readFact.2.1 64 = .ok (.bipush 93, 2) := by decide +kernel
theorem dX4_readFact_66 : decode mX4_readFact.2.1 66 = .ok (.invokevirtual 145, 3) := by decide +kernel
theorem dX4_readFact_69 : decode mX4_readFact.2.1 69 = .ok (.goto 33, 3) := by decide +kernel
theorem dX4_readFact_72 : decode mX4_readFact.2.1 72 = .ok (.aload_n 0, 1) := by decide +kernel
theorem dX4_readFact_73 : decode mX4_readFact.2.1 73 = .ok (.bipush 24, 2) := by decide +kernel
theorem dX4_readFact_75 : decode mX4_readFact.2.1 75 = .ok (.invokevirtual 102, 3) := by decide +kernel
theorem dX4_readFact_78 : decode mX4_readFact.2.1 78 = .ok (.ifCond .eq 19, 3) := by decide +kernel
theorem dX4_readFact_81 : decode mX4_readFact.2.1 81 = .ok (.aload_n 0, 1) := by decide +kernel
theorem dX4_readFact_82 : decode mX4_readFact.2.1 82 = .ok (.getfield 57, 3) := by decide +kernel
theorem dX4_readFact_85 : decode mX4_readFact.2.1 85 = .ok (.iconst 0, 1) := by decide +kernel
theorem dX4_readFact_86 : decode mX4_readFact.2.1 86 = .ok (.iconst 1, 1) := by decide +kernel
theorem dX4_readFact_87 : decode mX4_readFact.2.1 87 = .ok (.invokevirtual 171, 3) := by decide +kernel
theorem dX4_readFact_90 : decode mX4_readFact.2.1 90 = .ok (.aload_n 0, 1) := by decide +kernel
theorem dX4_readFact_91 : decode mX4_readFact.2.1 91 = .ok (.invokevirtual 61, 3) := by decide +kernel
theorem dX4_readFact_94 : decode mX4_readFact.2.1 94 = .ok (.goto 8, 3) := by decide +kernel
theorem dX4_readFact_97 : decode mX4_readFact.2.1 97 = .ok (.aload_n 0, 1) := by decide +kernel
theorem dX4_readFact_98 : decode mX4_readFact.2.1 98 = .ok (.iload_n 1, 1) := by decide +kernel
theorem dX4_readFact_99 : decode mX4_readFact.2.1 99 = .ok (.invokevirtual 196, 3) := by decide +kernel
theorem dX4_readFact_102 : decode mX4_readFact.2.1 102 = .ok (.return_, 1) := by decide +kernel
abbrev mX4_readComparison : aM := (yX4_readComparison, cX4_readComparison, 3, none)
theorem dX4_readComparison_0 : decode mX4_readComparison.2.1 0 = .ok (.aload_n 0, 1) := by decide +kernel
theorem dX4_readComparison_1 : decode mX4_readComparison.2.1 1 = .ok (.iload_n 1, 1) := by decide +kernel
theorem dX4_readComparison_2 : decode mX4_readComparison.2.1 2 = .ok (.invokevirtual 133, 3) := by decide +kernel
theorem dX4_readComparison_5 : decode mX4_readComparison.2.1 5 = .ok (.aload_n 0, 1) := by decide +kernel
theorem dX4_readComparison_6 : decode mX4_readComparison.2.1 6 = .ok (.bipush 60, 2) := by decide +kernel
theorem dX4_readComparison_8 : decode mX4_readComparison.2.1 8 = .ok (.invokevirtual 105, 3) := by decide +kernel
theorem dX4_readComparison_11 : decode mX4_readComparison.2.1 11 = .ok (.ifCond .ne 31, 3) := by decide +kernel
theorem dX4_readComparison_14 : decode mX4_readComparison.2.1 14 = .ok (.aload_n 0, 1) := by decide +kernel
theorem dX4_readComparison_15 : decode mX4_readComparison.2.1 15 = .ok (.bipush 62, 2) := by decide +kernel
theorem dX4_readComparison_17 : decode mX4_readComparison.2.1 17 = .ok (.invokevirtual 105, 3) := by decide +kernel
theorem dX4_readComparison_20 : decode mX4_readComparison.2.1 20 = .ok (.ifCond .ne 22, 3) := by decide +kernel
theorem dX4_readComparison_23 : decode mX4_readComparison.2.1 23 = .ok (.aload_n 0, 1) := by decide +kernel
theorem dX4_readComparison_24 : decode mX4_readComparison.2.1 24 = .ok (.bipush 61, 2) := by decide +kernel
theorem dX4_readComparison_26 : decode mX4_readComparison.2.1 26 = .ok (.invokevirtual 105, 3) := by decide +kernel
theorem dX4_readComparison_29 : decode mX4_readComparison.2.1 29 = .ok (.ifCond .ne 13, 3) := by decide +kernel
theorem dX4_readComparison_32 : decode mX4_readComparison.2.1 32 = .ok (.aload_n 0, 1) := by decide +kernel
theorem dX4_readComparison_33 : decode mX4_readComparison.2.1 33 = .ok (.iconst 1, 1) := by decide +kernel
theorem dX4_readComparison_34 : decode mX4_readComparison.2.1 34 = .ok (.aload_n 0, 1) := by decide +kernel
theorem dX4_readComparison_35 : decode mX4_readComparison.2.1 35 = .ok (.getfield 21, 3) := by decide +kernel
theorem dX4_readComparison_38 : decode mX4_readComparison.2.1 38 = .ok (.invokevirtual 77, 3) := by decide +kernel
theorem dX4_readComparison_41 : decode mX4_readComparison.2.1 41 = .ok (.return_, 1) := by decide +kernel
theorem dX4_readComparison_42 : decode mX4_readComparison.2.1 42 = .ok (.aload_n 0, 1) := by decide +kernel
theorem dX4_readComparison_43 : decode mX4_readComparison.2.1 43 = .ok (.bipush 60, 2) := by decide +kernel
theorem dX4_readComparison_45 : decode mX4_readComparison.2.1 45 = .ok (.invokevirtual 105, 3) := by decide +kernel
theorem dX4_readComparison_48 : decode mX4_readComparison.2.1 48 = .ok (.ifCond .eq 8, 3) := by decide +kernel
theorem dX4_readComparison_51 : decode mX4_readComparison.2.1 51 = .ok (.bipush 9, 2) := by decide +kernel
theorem dX4_readComparison_53 : decode mX4_readComparison.2.1 53 = .ok (.goto 19, 3) := by decide +kernel
theorem dX4_readComparison_56 : decode mX4_readComparison.2.1 56 = .ok (.aload_n 0, 1) := by decide +kernel
theorem dX4_readComparison_57 : decode mX4_readComparison.2.1 57 = .ok (.bipush 62, 2) := by decide +kernel
theorem dX4_readComparison_59 : decode mX4_readComparison.2.1 59 = .ok (.invokevirtual 105, 3) := by decide +kernel
theorem dX4_readComparison_62 : decode mX4_readComparison.2.1 62 = .ok (.ifCond .eq 8, 3) := by decide +kernel
theorem dX4_readComparison_65 : decode mX4_readComparison.2.1 65 = .ok (.bipush 10, 2) := by decide +kernel
theorem dX4_readComparison_67 : decode mX4_readComparison.2.1 67 = .ok (.goto 5, 3) := by decide +kernel
theorem dX4_readComparison_70 : decode mX4_readComparison.2.1 70 = .ok (.bipush 11, 2) := by decide +kernel
theorem dX4_readComparison_72 : decode mX4_readComparison.2.1 72 = .ok (.istore_n 2, 1) := by decide +kernel
theorem dX4_readComparison_73 : decode mX4_readComparison.2.1 73 = .ok (.aload_n 0, 1) := by decide +kernel
theorem dX4_readComparison_74 : decode mX4_readComparison.2.1 74 = .ok (.invokevirtual 61, 3) := by decide +kernel
theorem dX4_readComparison_77 : decode mX4_readComparison.2.1 77 = .ok (.aload_n 0, 1) := by decide +kernel
theorem dX4_readComparison_78 : decode mX4_readComparison.2.1 78 = .ok (.iload_n 1, 1) := by decide +kernel
theorem dX4_readComparison_79 : decode mX4_readComparison.2.1 79 = .ok (.invokevirtual 133, 3) := by decide +kernel
theorem dX4_readComparison_82 : decode mX4_readComparison.2.1 82 = .ok (.aload_n 0, 1) := by decide +kernel
theorem dX4_readComparison_83 : decode mX4_readComparison.2.1 83 = .ok (.getfield 57, 3) := by decide +kernel
theorem dX4_readComparison_86 : decode mX4_readComparison.2.1 86 = .ok (.iload_n 2, 1) := by decide +kernel
theorem dX4_readComparison_87 : decode mX4_readComparison.2.1 87 = .ok (.iconst 0, 1) := by decide +kernel
theorem dX4_readComparison_88 : decode mX4_readComparison.2.1 88 = .ok (.invokevirtual 171, 3) := by decide +kernel
theorem dX4_readComparison_91 : decode mX4_readComparison.2.1 91 = .ok (.return_, 1) := by decide +kernel
