theorem dX7_init_0 : decode cX7_init 0 = .ok (.aload_n 0, 1) := by decide +kernel
theorem dX7_init_1 : decode cX7_init 1 = .ok (.invokespecial 1, 3) := by decide +kernel
theorem dX7_init_4 : decode cX7_init 4 = .ok (.aload_n 0, 1) := by decide +kernel
theorem dX7_init_5 : decode cX7_init 5 = .ok (.bipush 8, 2) := by decide +kernel
theorem dX7_init_7 : decode cX7_init 7 = .ok (.putfield 7, 3) := by decide +kernel
theorem dX7_init_10 : decode cX7_init 10 = .ok (.aload_n 0, 1) := by decide +kernel
theorem dX7_init_11 : decode cX7_init 11 = .ok (.iconst 5, 1) := by decide +kernel
theorem dX7_init_12 : decode cX7_init 12 = .ok (.newarray .int, 2) := by decide +kernel
theorem dX7_init_14 : decode cX7_init 14 = .ok (.putfield 13, 3) := by decide +kernel
theorem dX7_init_17 : decode cX7_init 17 = .ok (.aload_n 0, 1) := by decide +kernel
theorem dX7_init_18 : decode cX7_init 18 = .ok (.bipush 27, 2) := by decide +kernel
theorem dX7_init_20 : decode cX7_init 20 = .ok (.newarray .int, 2) := by decide +kernel
theorem dX7_init_22 : decode cX7_init 22 = .ok (.putfield 17, 3) := by decide +kernel
theorem dX7_init_25 : decode cX7_init 25 = .ok (.aload_n 0, 1) := by decide +kernel
theorem dX7_init_26 : decode cX7_init 26 = .ok (.bipush 27, 2) := by decide +kernel
theorem dX7_init_28 : decode cX7_init 28 = .ok (.newarray .int, 2) := by decide +kernel
theorem dX7_init_30 : decode cX7_init 30 = .ok (.putfield 20, 3) := by decide +kernel
theorem dX7_init_33 : decode cX7_init 33 = .ok (.aload_n 0, 1) := by decide +kernel
theorem dX7_init_34 : decode cX7_init 34 = .ok (.sipush 216, 3) := by decide +kernel
theorem dX7_init_37 : decode cX7_init 37 = .ok (.newarray .int, 2) := by decide +kernel
theorem dX7_init_39 : decode cX7_init 39 = .ok (.putfield 23, 3) := by decide +kernel
theorem dX7_init_42 : decode cX7_init 42 = .ok (.aload_n 0, 1) := by decide +kernel
theorem dX7_init_43 : decode cX7_init 43 = .ok (.bipush 8, 2) := by decide +kernel
theorem dX7_init_45 : decode cX7_init 45 = .ok (.newarray .int, 2) := by decide +kernel
theorem dX7_init_47 : decode cX7_init 47 = .ok (.putfield 26, 3) := by decide +kernel
theorem dX7_init_50 : decode cX7_init 50 = .ok (.aload_n 0, 1) := by decide +kernel
theorem dX7_init_51 : decode cX7_init 51 = .ok (.bipush 27, 2) := by decide +kernel
theorem dX7_init_53 : decode cX7_init 53 = .ok (.newarray .int, 2) := by decide +kernel
theorem dX7_init_55 : decode cX7_init 55 = .ok (.putfield 29, 3) := by decide +kernel
theorem dX7_init_58 : decode cX7_init 58 = .ok (.aload_n 0, 1) := by decide +kernel
theorem dX7_init_59 : decode cX7_init 59 = .ok (.sipush 216, 3) := by decide +kernel
theorem dX7_init_62 : decode cX7_init 62 = .ok (.newarray .int, 2) := by decide +kernel
theorem dX7_init_64 : decode cX7_init 64 = .ok (.putfield 32, 3) := by decide +kernel
theorem dX7_init_67 : decode cX7_init 67 = .ok (.aload_n 0, 1) := by decide +kernel
theorem dX7_init_68 : decode cX7_init 68 = .ok (.bipush 96, 2) := by decide +kernel
theorem dX7_init_70 : decode cX7_init 70 = .ok (.newarray .long, 2) := by decide +kernel
theorem dX7_init_72 : decode cX7_init 72 = .ok (.putfield 35, 3) := by decide +kernel
theorem dX7_init_75 : decode cX7_init 75 = .ok (.aload_n 0, 1) := by decide +kernel
theorem dX7_init_76 : decode cX7_init 76 = .ok (.iconst 4, 1) := by decide +kernel
theorem dX7_init_77 : decode cX7_init 77 = .ok (.newarray .int, 2) := by decide +kernel
theorem dX7_init_79 : decode cX7_init 79 = .ok (.putfield 39, 3) := by decide +kernel
theorem dX7_init_82 : decode cX7_init 82 = .ok (.aload_n 0, 1) := by decide +kernel
theorem dX7_init_83 : decode cX7_init 83 = .ok (.iconst 4, 1) := by decide +kernel
theorem dX7_init_84 : decode cX7_init 84 = .ok (.newarray .int, 2) := by decide +kernel
theorem dX7_init_86 : decode cX7_init 86 = .ok (.putfield 42, 3) := by decide +kernel
theorem dX7_init_89 : decode cX7_init 89 = .ok (.aload_n 0, 1) := by decide +kernel
theorem dX7_init_90 : decode cX7_init 90 = .ok (.bipush 50, 2) := by decide +kernel
theorem dX7_init_92 : decode cX7_init 92 = .ok (.newarray .int, 2) := by decide +kernel
theorem dX7_init_94 : decode cX7_init 94 = .ok (.putfield 45, 3) := by decide +kernel
theorem dX7_init_97 : decode cX7_init 97 = .ok (.aload_n 0, 1) := by decide +kernel
theorem dX7_init_98 : decode cX7_init 98 = .ok (.bipush (-4), 2) := by decide +kernel
theorem dX7_init_100 : decode cX7_init 100 = .ok (.putfield 48, 3) := by decide +kernel
theorem dX7_init_103 : decode cX7_init 103 = .ok (.aload_n 0, 1) := by decide +kernel
theorem dX7_init_104 : decode cX7_init 104 = .ok (.iconst 4, 1) := by decide +kernel
theorem dX7_init_105 : decode cX7_init 105 = .ok (.newarray .int, 2) := by decide +kernel
theorem dX7_init_107 : decode cX7_init 107 = .ok (.putfield 51, 3) := by decide +kernel
theorem dX7_init_110 : decode cX7_init 110 = .ok (.aload_n 0, 1) := by decide +kernel
theorem dX7_init_111 : decode cX7_init 111 = .ok (.iconst 5, 1) := by decide +kernel
theorem dX7_init_112 : decode cX7_init 112 = .ok (.newarray .int, 2) := by decide +kernel
theorem dX7_init_114 : decode cX7_init 114 = .ok (.putfield 54, 3) := by decide +kernel
theorem dX7_init_117 : decode cX7_init 117 = .ok (.aload_n 0, 1) := by decide +kernel
theorem dX7_init_118 : decode cX7_init 118 = .ok (.bipush 24, 2) := by decide +kernel
theorem dX7_init_120 : decode cX7_init 120 = .ok (.newarray .int, 2) := by decide +kernel
theorem dX7_init_122 : decode cX7_init 122 = .ok (.putfield 57, 3) := by decide +kernel
theorem dX7_init_125 : decode cX7_init 125 = .ok (.iconst 0, 1) := by decide +kernel
theorem dX7_init_126 : decode cX7_init 126 = .ok (.istore_n 1, 1) := by decide +kernel
theorem dX7_init_127 : decode cX7_init 127 = .ok (.iload_n 1, 1) := by decide +kernel
theorem dX7_init_128 : decode cX7_init 128 = .ok (.iconst 4, 1) := by decide +kernel
theorem dX7_init_129 : decode cX7_init 129 = .ok (.if_icmp .ge 27, 3) := by decide +kernel
theorem dX7_init_132 : decode cX7_init 132 = .ok (.aload_n 0, 1) := by decide +kernel
theorem dX7_init_133 : decode cX7_init 133 = .ok (.getfield 17, 3) := by decide +kernel
theorem dX7_init_136 : decode cX7_init 136 = .ok (.bipush 20, 2) := by decide +kernel
theorem dX7_init_138 : decode cX7_init 138 = .ok (.iload_n 1, 1) := by decide +kernel
theorem dX7_init_139 : decode cX7_init 139 = .ok (.iadd, 1) := by decide +kernel
theorem dX7_init_140 : decode cX7_init 140 = .ok (.bipush (-4), 2) := by decide +kernel
theorem dX7_init_142 : decode cX7_init 142 = .ok (.iastore, 1) := by decide +kernel
theorem dX7_init_143 : decode cX7_init 143 = .ok (.aload_n 0, 1) := by decide +kernel
theorem dX7_init_144 : decode cX7_init 144 = .ok (.getfield 42, 3) := by decide +kernel
theorem dX7_init_147 : decode cX7_init 147 = .ok (.iload_n 1, 1) := by decide +kernel
theorem dX7_init_148 : decode cX7_init 148 = .ok (.iconst (-1), 1) := by decide +kernel
theorem dX7_init_149 : decode cX7_init 149 = .ok (.iastore, 1) := by decide +kernel
theorem dX7_init_150 : decode cX7_init 150 = .ok (.iinc 1 1, 3) := by decide +kernel
theorem dX7_init_153 : decode cX7_init 153 = .ok (.goto (-26), 3) := by decide +kernel
theorem dX7_init_156 : decode cX7_init 156 = .ok (.aload_n 0, 1) := by decide +kernel
theorem dX7_init_157 : decode cX7_init 157 = .ok (.getfield 17, 3) := by decide +kernel
theorem dX7_init_160 : decode cX7_init 160 = .ok (.bipush 26, 2) := by decide +kernel
theorem dX7_init_162 : decode cX7_init 162 = .ok (.iconst 1, 1) := by decide +kernel
theorem dX7_init_163 : decode cX7_init 163 = .ok (.iastore, 1) := by decide +kernel
theorem dX7_init_164 : decode cX7_init 164 = .ok (.return_, 1) := by decide +kernel
theorem dX7_lies_0 : decode cX7_lies 0 = .ok (.lload_n 0, 1) := by decide +kernel
theorem dX7_lies_1 : decode cX7_lies 1 = .ok (.lload_n 2, 1) := by decide +kernel
theorem dX7_lies_2 : decode cX7_lies 2 = .ok (.lcmp, 1) := by decide +kernel
theorem dX7_lies_3 : decode cX7_lies 3 = .ok (.ifCond .lt 14, 3) := by decide +kernel
theorem dX7_lies_6 : decode cX7_lies 6 = .ok (.lload_n 0, 1) := by decide +kernel
theorem dX7_lies_7 : decode cX7_lies 7 = .ok (.lload 4, 2) := by decide +kernel
theorem dX7_lies_9 : decode cX7_lies 9 = .ok (.lcmp, 1) := by decide +kernel
theorem dX7_lies_10 : decode cX7_lies 10 = .ok (.ifCond .gt 7, 3) := by decide +kernel
theorem dX7_lies_13 : decode cX7_lies 13 = .ok (.iconst 1, 1) := by decide +kernel
theorem dX7_lies_14 : decode cX7_lies 14 = .ok (.goto 4, 3) := by decide +kernel
theorem dX7_lies_17 : decode cX7_lies 17 = .ok (.iconst 0, 1) := by decide +kernel
theorem dX7_lies_18 : decode cX7_lies 18 = .ok (.ireturn, 1) := by decide +kernel
theorem dX7_isOne_0 : decode cX7_isOne 0 = .ok (.iload_n 1, 1) := by decide +kernel
theorem dX7_isOne_1 : decode cX7_isOne 1 = .ok (.i2l, 1) := by decide +kernel
theorem dX7_isOne_2 : decode cX7_isOne 2 = .ok (.lconst 0, 1) := by decide +kernel
theorem dX7_isOne_3 : decode cX7_isOne 3 = .ok (.aload_n 0, 1) := by decide +kernel
theorem dX7_isOne_4 : decode cX7_isOne 4 = .ok (.getfield 60, 3) := by decide +kernel
theorem dX7_isOne_7 : decode cX7_isOne 7 = .ok (.iconst 1, 1) := by decide +kernel
theorem dX7_isOne_8 : decode cX7_isOne 8 = .ok (.isub, 1) := by decide +kernel
theorem dX7_isOne_9 : decode cX7_isOne 9 = .ok (.i2l, 1) := by decide +kernel
theorem dX7_isOne_10 : decode cX7_isOne 10 = .ok (.invokestatic 63, 3) := by decide +kernel
theorem dX7_isOne_13 : decode cX7_isOne 13 = .ok (.ireturn, 1) := by decide +kernel
theorem dX7_isDoor_0 : decode cX7_isDoor 0 = .ok (.iload_n 0, 1) := by decide +kernel
theorem dX7_isDoor_1 : decode cX7_isDoor 1 = .ok (.i2l, 1) := by decide +kernel
theorem dX7_isDoor_2 : decode cX7_isDoor 2 = .ok (.lconst 0, 1) := by decide +kernel
theorem dX7_isDoor_3 : decode cX7_isDoor 3 = .ok (.ldc2_w 67, 3) := by decide +kernel
theorem dX7_isDoor_6 : decode cX7_isDoor 6 = .ok (.invokestatic 63, 3) := by decide +kernel
theorem dX7_isDoor_9 : decode cX7_isDoor 9 = .ok (.ireturn, 1) := by decide +kernel
theorem dX7_aside_0 : decode cX7_aside 0 = .ok (.iconst 0, 1) := by decide +kernel
theorem dX7_aside_1 : decode cX7_aside 1 = .ok (.istore_n 1, 1) := by decide +kernel
theorem dX7_aside_2 : decode cX7_aside 2 = .ok (.iload_n 1, 1) := by decide +kernel
theorem dX7_aside_3 : decode cX7_aside 3 = .ok (.bipush 27, 2) := by decide +kernel
theorem dX7_aside_5 : decode cX7_aside 5 = .ok (.if_icmp .ge 21, 3) := by decide +kernel
theorem dX7_aside_8 : decode cX7_aside 8 = .ok (.aload_n 0, 1) := by decide +kernel
theorem dX7_aside_9 : decode cX7_aside 9 = .ok (.getfield 20, 3) := by decide +kernel
theorem dX7_aside_12 : decode cX7_aside 12 = .ok (.iload_n 1, 1) := by decide +kernel
theorem dX7_aside_13 : decode cX7_aside 13 = .ok (.aload_n 0, 1) := by decide +kernel
theorem dX7_aside_14 : decode cX7_aside 14 = .ok (.getfield 17, 3) := by decide +kernel
theorem dX7_aside_17 : decode cX7_aside 17 = .ok (.iload_n 1, 1) := by decide +kernel
theorem dX7_aside_18 : decode cX7_aside 18 = .ok (.iaload, 1) := by decide +kernel
theorem dX7_aside_19 : decode cX7_aside 19 = .ok (.iastore, 1) := by decide +kernel
theorem dX7_aside_20 : decode cX7_aside 20 = .ok (.iinc 1 1, 3) := by decide +kernel
theorem dX7_aside_23 : decode cX7_aside 23 = .ok (.goto (-21), 3) := by decide +kernel
theorem dX7_aside_26 : decode cX7_aside 26 = .ok (.return_, 1) := by decide +kernel
theorem dX7_take_0 : decode cX7_take 0 = .ok (.iconst 0, 1) := by decide +kernel
theorem dX7_take_1 : decode cX7_take 1 = .ok (.istore_n 1, 1) := by decide +kernel
theorem dX7_take_2 : decode cX7_take 2 = .ok (.iload_n 1, 1) := by decide +kernel
theorem dX7_take_3 : decode cX7_take 3 = .ok (.bipush 27, 2) := by decide +kernel
theorem dX7_take_5 : decode cX7_take 5 = .ok (.if_icmp .ge 21, 3) := by decide +kernel
theorem dX7_take_8 : decode cX7_take 8 = .ok (.aload_n 0, 1) := by decide +kernel
theorem dX7_take_9 : decode cX7_take 9 = .ok (.getfield 17, 3) := by decide +kernel
theorem dX7_take_12 : decode cX7_take 12 = .ok (.iload_n 1, 1) := by decide +kernel
theorem dX7_take_13 : decode cX7_take 13 = .ok (.aload_n 0, 1) := by decide +kernel
theorem dX7_take_14 : decode cX7_take 14 = .ok (.getfield 20, 3) := by decide +kernel
theorem dX7_take_17 : decode cX7_take 17 = .ok (.iload_n 1, 1) := by decide +kernel
theorem dX7_take_18 : decode cX7_take 18 = .ok (.iaload, 1) := by decide +kernel
theorem dX7_take_19 : decode cX7_take 19 = .ok (.iastore, 1) := by decide +kernel
theorem dX7_take_20 : decode cX7_take 20 = .ok (.iinc 1 1, 3) := by decide +kernel
theorem dX7_take_23 : decode cX7_take 23 = .ok (.goto (-21), 3) := by decide +kernel
theorem dX7_take_26 : decode cX7_take 26 = .ok (.return_, 1) := by decide +kernel
theorem dX7_kindOf_0 : decode cX7_kindOf 0 = .ok (.iload_n 1, 1) := by decide +kernel
theorem dX7_kindOf_1 : decode cX7_kindOf 1 = .ok (.aload_n 0, 1) := by decide +kernel
theorem dX7_kindOf_2 : decode cX7_kindOf 2 = .ok (.getfield 48, 3) := by decide +kernel
theorem dX7_kindOf_5 : decode cX7_kindOf 5 = .ok (.if_icmp .ne 10, 3) := by decide +kernel
theorem dX7_kindOf_8 : decode cX7_kindOf 8 = .ok (.aload_n 0, 1) := by decide +kernel
theorem dX7_kindOf_9 : decode cX7_kindOf 9 = .ok (.getfield 69, 3) := by decide +kernel
theorem dX7_kindOf_12 : decode cX7_kindOf 12 = .ok (.goto 9, 3) := by decide +kernel
theorem dX7_kindOf_15 : decode cX7_kindOf 15 = .ok (.aload_n 0, 1) := by decide +kernel
theorem dX7_kindOf_16 : decode cX7_kindOf 16 = .ok (.getfield 13, 3) := by decide +kernel
theorem dX7_kindOf_19 : decode cX7_kindOf 19 = .ok (.iload_n 1, 1) := by decide +kernel
theorem dX7_kindOf_20 : decode cX7_kindOf 20 = .ok (.iaload, 1) := by decide +kernel
theorem dX7_kindOf_21 : decode cX7_kindOf 21 = .ok (.ireturn, 1) := by decide +kernel
theorem dX7_keysOf_0 : decode cX7_keysOf 0 = .ok (.iconst 0, 1) := by decide +kernel
theorem dX7_keysOf_1 : decode cX7_keysOf 1 = .ok (.istore_n 2, 1) := by decide +kernel
theorem dX7_keysOf_2 : decode cX7_keysOf 2 = .ok (.iconst 0, 1) := by decide +kernel
theorem dX7_keysOf_3 : decode cX7_keysOf 3 = .ok (.istore_n 3, 1) := by decide +kernel
theorem dX7_keysOf_4 : decode cX7_keysOf 4 = .ok (.iload_n 3, 1) := by decide +kernel
theorem dX7_keysOf_5 : decode cX7_keysOf 5 = .ok (.iconst 4, 1) := by decide +kernel
theorem dX7_keysOf_6 : decode cX7_keysOf 6 = .ok (.if_icmp .ge 30, 3) := by decide +kernel
theorem dX7_keysOf_9 : decode cX7_keysOf 9 = .ok (.iload_n 2, 1) := by decide +kernel
theorem dX7_keysOf_10 : decode cX7_keysOf 10 = .ok (.aload_n 0, 1) := by decide +kernel
theorem dX7_keysOf_11 : decode cX7_keysOf 11 = .ok (.getfield 20, 3) := by decide +kernel
theorem dX7_keysOf_14 : decode cX7_keysOf 14 = .ok (.bipush 20, 2) := by decide +kernel
theorem dX7_keysOf_16 : decode cX7_keysOf 16 = .ok (.iload_n 3, 1) := by decide +kernel
theorem dX7_keysOf_17 : decode cX7_keysOf 17 = .ok (.iadd, 1) := by decide +kernel
theorem dX7_keysOf_18 : decode cX7_keysOf 18 = .ok (.iaload, 1) := by decide +kernel
theorem dX7_keysOf_19 : decode cX7_keysOf 19 = .ok (.iload_n 1, 1) := by decide +kernel
theorem dX7_keysOf_20 : decode cX7_keysOf 20 = .ok (.if_icmp .ne 7, 3) := by decide +kernel
theorem dX7_keysOf_23 : decode cX7_keysOf 23 = .ok (.iconst 1, 1) := by decide +kernel
theorem dX7_keysOf_24 : decode cX7_keysOf 24 = .ok (.goto 4, 3) := by decide +kernel
theorem dX7_keysOf_27 : decode cX7_keysOf 27 = .ok (.iconst 0, 1) := by decide +kernel
theorem dX7_keysOf_28 : decode cX7_keysOf 28 = .ok (.iadd, 1) := by decide +kernel
theorem dX7_keysOf_29 : decode cX7_keysOf 29 = .ok (.istore_n 2, 1) := by decide +kernel
theorem dX7_keysOf_30 : decode cX7_keysOf 30 = .ok (.iinc 3 1, 3) := by decide +kernel
theorem dX7_keysOf_33 : decode cX7_keysOf 33 = .ok (.goto (-29), 3) := by decide +kernel
theorem dX7_keysOf_36 : decode cX7_keysOf 36 = .ok (.iload_n 2, 1) := by decide +kernel
theorem dX7_keysOf_37 : decode cX7_keysOf 37 = .ok (.ireturn, 1) := by decide +kernel
theorem dX7_more_0 : decode cX7_more 0 = .ok (.aload_n 0, 1) := by decide +kernel
theorem dX7_more_1 : decode cX7_more 1 = .ok (.iload_n 1, 1) := by decide +kernel
theorem dX7_more_2 : decode cX7_more 2 = .ok (.invokevirtual 72, 3) := by decide +kernel
theorem dX7_more_5 : decode cX7_more 5 = .ok (.istore_n 3, 1) := by decide +kernel
theorem dX7_more_6 : decode cX7_more 6 = .ok (.iload_n 3, 1) := by decide +kernel
theorem dX7_more_7 : decode cX7_more 7 = .ok (.iconst 1, 1) := by decide +kernel
theorem dX7_more_8 : decode cX7_more 8 = .ok (.if_icmp .eq 8, 3) := by decide +kernel
theorem dX7_more_11 : decode cX7_more 11 = .ok (.iload_n 3, 1) := by decide +kernel
theorem dX7_more_12 : decode cX7_more 12 = .ok (.iconst 3, 1) := by decide +kernel
theorem dX7_more_13 : decode cX7_more 13 = .ok (.if_icmp .ne 25, 3) := by decide +kernel
theorem dX7_more_16 : decode cX7_more 16 = .ok (.aload_n 0, 1) := by decide +kernel
theorem dX7_more_17 : decode cX7_more 17 = .ok (.iload_n 1, 1) := by decide +kernel
theorem dX7_more_18 : decode cX7_more 18 = .ok (.invokevirtual 76, 3) := by decide +kernel
theorem dX7_more_21 : decode cX7_more 21 = .ok (.istore 4, 2) := by decide +kernel
theorem dX7_more_23 : decode cX7_more 23 = .ok (.iload_n 3, 1) := by decide +kernel
theorem dX7_more_24 : decode cX7_more 24 = .ok (.iconst 3, 1) := by decide +kernel
theorem dX7_more_25 : decode cX7_more 25 = .ok (.if_icmp .ne 10, 3) := by decide +kernel
theorem dX7_more_28 : decode cX7_more 28 = .ok (.iconst 2, 1) := by decide +kernel
theorem dX7_more_29 : decode cX7_more 29 = .ok (.iload 4, 2) := by decide +kernel
theorem dX7_more_31 : decode cX7_more 31 = .ok (.imul, 1) := by decide +kernel
theorem dX7_more_32 : decode cX7_more 32 = .ok (.goto 5, 3) := by decide +kernel
theorem dX7_more_35 : decode cX7_more 35 = .ok (.iload 4, 2) := by decide +kernel
theorem dX7_more_37 : decode cX7_more 37 = .ok (.ireturn, 1) := by decide +kernel
theorem dX7_more_38 : decode cX7_more 38 = .ok (.iload_n 3, 1) := by decide +kernel
theorem dX7_more_39 : decode cX7_more 39 = .ok (.iconst 2, 1) := by decide +kernel
theorem dX7_more_40 : decode cX7_more 40 = .ok (.if_icmp .eq 8, 3) := by decide +kernel
theorem dX7_more_43 : decode cX7_more 43 = .ok (.iload_n 3, 1) := by decide +kernel
theorem dX7_more_44 : decode cX7_more 44 = .ok (.iconst 4, 1) := by decide +kernel
theorem dX7_more_45 : decode cX7_more 45 = .ok (.if_icmp .ne 7, 3) := by decide +kernel
theorem dX7_more_48 : decode cX7_more 48 = .ok (.iconst 1, 1) := by decide +kernel
theorem dX7_more_49 : decode cX7_more 49 = .ok (.goto 4, 3) := by decide +kernel
theorem dX7_more_52 : decode cX7_more 52 = .ok (.iconst 0, 1) := by decide +kernel
theorem dX7_more_53 : decode cX7_more 53 = .ok (.istore 4, 2) := by decide +kernel
theorem dX7_more_55 : decode cX7_more 55 = .ok (.iload 4, 2) := by decide +kernel
theorem dX7_more_57 : decode cX7_more 57 = .ok (.ifCond .eq 16, 3) := by decide +kernel
theorem dX7_more_60 : decode cX7_more 60 = .ok (.aload_n 0, 1) := by decide +kernel
theorem dX7_more_61 : decode cX7_more 61 = .ok (.getfield 20, 3) := by decide +kernel
theorem dX7_more_64 : decode cX7_more 64 = .ok (.bipush 24, 2) := by decide +kernel
theorem dX7_more_66 : decode cX7_more 66 = .ok (.iaload, 1) := by decide +kernel
theorem dX7_more_67 : decode cX7_more 67 = .ok (.iconst 2, 1) := by decide +kernel
theorem dX7_more_68 : decode cX7_more 68 = .ok (.irem, 1) := by decide +kernel
theorem dX7_more_69 : decode cX7_more 69 = .ok (.iconst 1, 1) := by decide +kernel
theorem dX7_more_70 : decode cX7_more 70 = .ok (.if_icmp .eq 23, 3) := by decide +kernel
theorem dX7_more_73 : decode cX7_more 73 = .ok (.iload_n 3, 1) := by decide +kernel
theorem dX7_more_74 : decode cX7_more 74 = .ok (.iconst 4, 1) := by decide +kernel
theorem dX7_more_75 : decode cX7_more 75 = .ok (.if_icmp .ne 22, 3) := by decide +kernel
theorem dX7_more_78 : decode cX7_more 78 = .ok (.aload_n 0, 1) := by decide +kernel
theorem dX7_more_79 : decode cX7_more 79 = .ok (.getfield 20, 3) := by decide +kernel
theorem dX7_more_82 : decode cX7_more 82 = .ok (.iconst 4, 1) := by decide +kernel
theorem dX7_more_83 : decode cX7_more 83 = .ok (.iload_n 1, 1) := by decide +kernel
theorem dX7_more_84 : decode cX7_more 84 = .ok (.imul, 1) := by decide +kernel
theorem dX7_more_85 : decode cX7_more 85 = .ok (.iload_n 2, 1) := by decide +kernel
theorem dX7_more_86 : decode cX7_more 86 = .ok (.iadd, 1) := by decide +kernel
theorem dX7_more_87 : decode cX7_more 87 = .ok (.iaload, 1) := by decide +kernel
theorem dX7_more_88 : decode cX7_more 88 = .ok (.bipush 9, 2) := by decide +kernel
theorem dX7_more_90 : decode cX7_more 90 = .ok (.if_icmp .lt 7, 3) := by decide +kernel
theorem dX7_more_93 : decode cX7_more 93 = .ok (.iconst 1, 1) := by decide +kernel
theorem dX7_more_94 : decode cX7_more 94 = .ok (.goto 4, 3) := by decide +kernel
theorem dX7_more_97 : decode cX7_more 97 = .ok (.iconst 0, 1) := by decide +kernel
theorem dX7_more_98 : decode cX7_more 98 = .ok (.istore 5, 2) := by decide +kernel
theorem dX7_more_100 : decode cX7_more 100 = .ok (.iload 5, 2) := by decide +kernel
theorem dX7_more_102 : decode cX7_more 102 = .ok (.ifCond .eq 7, 3) := by decide +kernel
theorem dX7_more_105 : decode cX7_more 105 = .ok (.iconst 0, 1) := by decide +kernel
theorem dX7_more_106 : decode cX7_more 106 = .ok (.goto 4, 3) := by decide +kernel
theorem dX7_more_109 : decode cX7_more 109 = .ok (.iconst 1, 1) := by decide +kernel
theorem dX7_more_110 : decode cX7_more 110 = .ok (.ireturn, 1) := by decide +kernel
theorem dX7_leastOf_0 : decode cX7_leastOf 0 = .ok (.bipush (-4), 2) := by decide +kernel
theorem dX7_leastOf_2 : decode cX7_leastOf 2 = .ok (.istore_n 2, 1) := by decide +kernel
theorem dX7_leastOf_3 : decode cX7_leastOf 3 = .ok (.iconst 0, 1) := by decide +kernel
theorem dX7_leastOf_4 : decode cX7_leastOf 4 = .ok (.istore_n 3, 1) := by decide +kernel
theorem dX7_leastOf_5 : decode cX7_leastOf 5 = .ok (.iload_n 3, 1) := by decide +kernel
theorem dX7_leastOf_6 : decode cX7_leastOf 6 = .ok (.aload_n 0, 1) := by decide +kernel
theorem dX7_leastOf_7 : decode cX7_leastOf 7 = .ok (.getfield 60, 3) := by decide +kernel
theorem dX7_leastOf_10 : decode cX7_leastOf 10 = .ok (.if_icmp .ge 44, 3) := by decide +kernel
theorem dX7_leastOf_13 : decode cX7_leastOf 13 = .ok (.iload_n 2, 1) := by decide +kernel
theorem dX7_leastOf_14 : decode cX7_leastOf 14 = .ok (.bipush (-4), 2) := by decide +kernel
theorem dX7_leastOf_16 : decode cX7_leastOf 16 = .ok (.if_icmp .eq 26, 3) := by decide +kernel
theorem dX7_leastOf_19 : decode cX7_leastOf 19 = .ok (.aload_n 0, 1) := by decide +kernel
theorem dX7_leastOf_20 : decode cX7_leastOf 20 = .ok (.getfield 20, 3) := by decide +kernel
theorem dX7_leastOf_23 : decode cX7_leastOf 23 = .ok (.iconst 4, 1) := by decide +kernel
theorem dX7_leastOf_24 : decode cX7_leastOf 24 = .ok (.iload_n 3, 1) := by decide +kernel
theorem dX7_leastOf_25 : decode cX7_leastOf 25 = .ok (.imul, 1) := by decide +kernel
theorem dX7_leastOf_26 : decode cX7_leastOf 26 = .ok (.iload_n 1, 1) := by decide +kernel
theorem dX7_leastOf_27 : decode cX7_leastOf 27 = .ok (.iadd, 1) := by decide +kernel
theorem dX7_leastOf_28 : decode cX7_leastOf 28 = .ok (.iaload, 1) := by decide +kernel
theorem dX7_leastOf_29 : decode cX7_leastOf 29 = .ok (.aload_n 0, 1) := by decide +kernel
theorem dX7_leastOf_30 : decode cX7_leastOf 30 = .ok (.getfield 20, 3) := by decide +kernel
theorem dX7_leastOf_33 : decode cX7_leastOf 33 = .ok (.iconst 4, 1) := by decide +kernel
theorem dX7_leastOf_34 : decode cX7_leastOf 34 = .ok (.iload_n 2, 1) := by decide +kernel
theorem dX7_leastOf_35 : decode cX7_leastOf 35 = .ok (.imul, 1) := by decide +kernel
theorem dX7_leastOf_36 : decode cX7_leastOf 36 = .ok (.iload_n 1, 1) := by decide +kernel
theorem dX7_leastOf_37 : decode cX7_leastOf 37 = .ok (.iadd, 1) := by decide +kernel
theorem dX7_leastOf_38 : decode cX7_leastOf 38 = .ok (.iaload, 1) := by decide +kernel
theorem dX7_leastOf_39 : decode cX7_leastOf 39 = .ok (.if_icmp .ge 7, 3) := by decide +kernel
theorem dX7_leastOf_42 : decode cX7_leastOf 42 = .ok (.iload_n 3, 1) := by decide +kernel
theorem dX7_leastOf_43 : decode cX7_leastOf 43 = .ok (.goto 4, 3) := by decide +kernel
theorem dX7_leastOf_46 : decode cX7_leastOf 46 = .ok (.iload_n 2, 1) := by decide +kernel
theorem dX7_leastOf_47 : decode cX7_leastOf 47 = .ok (.istore_n 2, 1) := by decide +kernel
theorem dX7_leastOf_48 : decode cX7_leastOf 48 = .ok (.iinc 3 1, 3) := by decide +kernel
theorem dX7_leastOf_51 : decode cX7_leastOf 51 = .ok (.goto (-46), 3) := by decide +kernel
theorem dX7_leastOf_54 : decode cX7_leastOf 54 = .ok (.iload_n 2, 1) := by decide +kernel
theorem dX7_leastOf_55 : decode cX7_leastOf 55 = .ok (.ireturn, 1) := by decide +kernel
theorem dX7_goDoor_0 : decode cX7_goDoor 0 = .ok (.aload_n 0, 1) := by decide +kernel
theorem dX7_goDoor_1 : decode cX7_goDoor 1 = .ok (.getfield 20, 3) := by decide +kernel
theorem dX7_goDoor_4 : decode cX7_goDoor 4 = .ok (.bipush 20, 2) := by decide +kernel
theorem dX7_goDoor_6 : decode cX7_goDoor 6 = .ok (.iload_n 1, 1) := by decide +kernel
theorem dX7_goDoor_7 : decode cX7_goDoor 7 = .ok (.iadd, 1) := by decide +kernel
theorem dX7_goDoor_8 : decode cX7_goDoor 8 = .ok (.iaload, 1) := by decide +kernel
theorem dX7_goDoor_9 : decode cX7_goDoor 9 = .ok (.istore_n 2, 1) := by decide +kernel
theorem dX7_goDoor_10 : decode cX7_goDoor 10 = .ok (.iload_n 2, 1) := by decide +kernel
theorem dX7_goDoor_11 : decode cX7_goDoor 11 = .ok (.bipush (-4), 2) := by decide +kernel
theorem dX7_goDoor_13 : decode cX7_goDoor 13 = .ok (.if_icmp .ne 4, 3) := by decide +kernel
theorem dX7_goDoor_16 : decode cX7_goDoor 16 = .ok (.return_, 1) := by decide +kernel
theorem dX7_goDoor_17 : decode cX7_goDoor 17 = .ok (.aload_n 0, 1) := by decide +kernel
theorem dX7_goDoor_18 : decode cX7_goDoor 18 = .ok (.getfield 20, 3) := by decide +kernel
theorem dX7_goDoor_21 : decode cX7_goDoor 21 = .ok (.iconst 4, 1) := by decide +kernel
theorem dX7_goDoor_22 : decode cX7_goDoor 22 = .ok (.iload_n 2, 1) := by decide +kernel
theorem dX7_goDoor_23 : decode cX7_goDoor 23 = .ok (.imul, 1) := by decide +kernel
theorem dX7_goDoor_24 : decode cX7_goDoor 24 = .ok (.iload_n 1, 1) := by decide +kernel
theorem dX7_goDoor_25 : decode cX7_goDoor 25 = .ok (.iadd, 1) := by decide +kernel
theorem dX7_goDoor_26 : decode cX7_goDoor 26 = .ok (.iaload, 1) := by decide +kernel
theorem dX7_goDoor_27 : decode cX7_goDoor 27 = .ok (.aload_n 0, 1) := by decide +kernel
theorem dX7_goDoor_28 : decode cX7_goDoor 28 = .ok (.getfield 7, 3) := by decide +kernel
theorem dX7_goDoor_31 : decode cX7_goDoor 31 = .ok (.iconst 4, 1) := by decide +kernel
theorem dX7_goDoor_32 : decode cX7_goDoor 32 = .ok (.iadd, 1) := by decide +kernel
theorem dX7_goDoor_33 : decode cX7_goDoor 33 = .ok (.if_icmp .lt 40, 3) := by decide +kernel
theorem dX7_goDoor_36 : decode cX7_goDoor 36 = .ok (.aload_n 0, 1) := by decide +kernel
theorem dX7_goDoor_37 : decode cX7_goDoor 37 = .ok (.getfield 20, 3) := by decide +kernel
theorem dX7_goDoor_40 : decode cX7_goDoor 40 = .ok (.iconst 4, 1) := by decide +kernel
theorem dX7_goDoor_41 : decode cX7_goDoor 41 = .ok (.iload_n 2, 1) := by decide +kernel
theorem dX7_goDoor_42 : decode cX7_goDoor 42 = .ok (.imul, 1) := by decide +kernel
theorem dX7_goDoor_43 : decode cX7_goDoor 43 = .ok (.iload_n 1, 1) := by decide +kernel
theorem dX7_goDoor_44 : decode cX7_goDoor 44 = .ok (.iadd, 1) := by decide +kernel
theorem dX7_goDoor_45 : decode cX7_goDoor 45 = .ok (.iconst 0, 1) := by decide +kernel
theorem dX7_goDoor_46 : decode cX7_goDoor 46 = .ok (.iastore, 1) := by decide +kernel
theorem dX7_goDoor_47 : decode cX7_goDoor 47 = .ok (.aload_n 0, 1) := by decide +kernel
theorem dX7_goDoor_48 : decode cX7_goDoor 48 = .ok (.getfield 20, 3) := by decide +kernel
theorem dX7_goDoor_51 : decode cX7_goDoor 51 = .ok (.bipush 25, 2) := by decide +kernel
theorem dX7_goDoor_53 : decode cX7_goDoor 53 = .ok (.dup2, 1) := by decide +kernel
theorem dX7_goDoor_54 : decode cX7_goDoor 54 = .ok (.iaload, 1) := by decide +kernel
theorem dX7_goDoor_55 : decode cX7_goDoor 55 = .ok (.iconst 1, 1) := by decide +kernel
theorem dX7_goDoor_56 : decode cX7_goDoor 56 = .ok (.iadd, 1) := by decide +kernel
theorem dX7_goDoor_57 : decode cX7_goDoor 57 = .ok (.iastore, 1) := by decide +kernel
theorem dX7_goDoor_58 : decode cX7_goDoor 58 = .ok (.aload_n 0, 1) := by decide +kernel
theorem dX7_goDoor_59 : decode cX7_goDoor 59 = .ok (.dup, 1) := by decide +kernel
theorem dX7_goDoor_60 : decode cX7_goDoor 60 = .ok (.getfield 79, 3) := by decide +kernel
theorem dX7_goDoor_63 : decode cX7_goDoor 63 = .ok (.iconst 1, 1) := by decide +kernel
theorem dX7_goDoor_64 : decode cX7_goDoor 64 = .ok (.iload_n 1, 1) := by decide +kernel
theorem dX7_goDoor_65 : decode cX7_goDoor 65 = .ok (.ishl, 1) := by decide +kernel
theorem dX7_goDoor_66 : decode cX7_goDoor 66 = .ok (.ior, 1) := by decide +kernel
theorem dX7_goDoor_67 : decode cX7_goDoor 67 = .ok (.putfield 79, 3) := by decide +kernel
theorem dX7_goDoor_70 : decode cX7_goDoor 70 = .ok (.goto 34, 3) := by decide +kernel
theorem dX7_goDoor_73 : decode cX7_goDoor 73 = .ok (.aload_n 0, 1) := by decide +kernel
theorem dX7_goDoor_74 : decode cX7_goDoor 74 = .ok (.getfield 20, 3) := by decide +kernel
theorem dX7_goDoor_77 : decode cX7_goDoor 77 = .ok (.iconst 4, 1) := by decide +kernel
theorem dX7_goDoor_78 : decode cX7_goDoor 78 = .ok (.iload_n 2, 1) := by decide +kernel
theorem dX7_goDoor_79 : decode cX7_goDoor 79 = .ok (.imul, 1) := by decide +kernel
theorem dX7_goDoor_80 : decode cX7_goDoor 80 = .ok (.iload_n 1, 1) := by decide +kernel
theorem dX7_goDoor_81 : decode cX7_goDoor 81 = .ok (.iadd, 1) := by decide +kernel
theorem dX7_goDoor_82 : decode cX7_goDoor 82 = .ok (.iaload, 1) := by decide +kernel
theorem dX7_goDoor_83 : decode cX7_goDoor 83 = .ok (.aload_n 0, 1) := by decide +kernel
theorem dX7_goDoor_84 : decode cX7_goDoor 84 = .ok (.getfield 7, 3) := by decide +kernel
theorem dX7_goDoor_87 : decode cX7_goDoor 87 = .ok (.if_icmp .lt 17, 3) := by decide +kernel
theorem dX7_goDoor_90 : decode cX7_goDoor 90 = .ok (.aload_n 0, 1) := by decide +kernel
theorem dX7_goDoor_91 : decode cX7_goDoor 91 = .ok (.getfield 20, 3) := by decide +kernel
theorem dX7_goDoor_94 : decode cX7_goDoor 94 = .ok (.bipush 20, 2) := by decide +kernel
theorem dX7_goDoor_96 : decode cX7_goDoor 96 = .ok (.iload_n 1, 1) := by decide +kernel
theorem dX7_goDoor_97 : decode cX7_goDoor 97 = .ok (.iadd, 1) := by decide +kernel
theorem dX7_goDoor_98 : decode cX7_goDoor 98 = .ok (.aload_n 0, 1) := by decide +kernel
theorem dX7_goDoor_99 : decode cX7_goDoor 99 = .ok (.iload_n 1, 1) := by decide +kernel
theorem dX7_goDoor_100 : decode cX7_goDoor 100 = .ok (.invokevirtual 82, 3) := by decide +kernel
theorem dX7_goDoor_103 : decode cX7_goDoor 103 = .ok (.iastore, 1) := by decide +kernel
theorem dX7_goDoor_104 : decode cX7_goDoor 104 = .ok (.return_, 1) := by decide +kernel
theorem dX7_goDay_0 : decode cX7_goDay 0 = .ok (.aload_n 0, 1) := by decide +kernel
theorem dX7_goDay_1 : decode cX7_goDay 1 = .ok (.iconst 0, 1) := by decide +kernel
theorem dX7_goDay_2 : decode cX7_goDay 2 = .ok (.putfield 79, 3) := by decide +kernel
theorem dX7_goDay_5 : decode cX7_goDay 5 = .ok (.iconst 0, 1) := by decide +kernel
theorem dX7_goDay_6 : decode cX7_goDay 6 = .ok (.istore_n 1, 1) := by decide +kernel
theorem dX7_goDay_7 : decode cX7_goDay 7 = .ok (.iload_n 1, 1) := by decide +kernel
theorem dX7_goDay_8 : decode cX7_goDay 8 = .ok (.iconst 4, 1) := by decide +kernel
theorem dX7_goDay_9 : decode cX7_goDay 9 = .ok (.if_icmp .ge 47, 3) := by decide +kernel
theorem dX7_goDay_12 : decode cX7_goDay 12 = .ok (.aload_n 0, 1) := by decide +kernel
theorem dX7_goDay_13 : decode cX7_goDay 13 = .ok (.getfield 51, 3) := by decide +kernel
theorem dX7_goDay_16 : decode cX7_goDay 16 = .ok (.iload_n 1, 1) := by decide +kernel
theorem dX7_goDay_17 : decode cX7_goDay 17 = .ok (.aload_n 0, 1) := by decide +kernel
theorem dX7_goDay_18 : decode cX7_goDay 18 = .ok (.getfield 20, 3) := by decide +kernel
theorem dX7_goDay_21 : decode cX7_goDay 21 = .ok (.bipush 20, 2) := by decide +kernel
theorem dX7_goDay_23 : decode cX7_goDay 23 = .ok (.iload_n 1, 1) := by decide +kernel
theorem dX7_goDay_24 : decode cX7_goDay 24 = .ok (.iadd, 1) := by decide +kernel
theorem dX7_goDay_25 : decode cX7_goDay 25 = .ok (.iaload, 1) := by decide +kernel
theorem dX7_goDay_26 : decode cX7_goDay 26 = .ok (.bipush (-4), 2) := by decide +kernel
theorem dX7_goDay_28 : decode cX7_goDay 28 = .ok (.if_icmp .ne 7, 3) := by decide +kernel
theorem dX7_goDay_31 : decode cX7_goDay 31 = .ok (.iconst 0, 1) := by decide +kernel
theorem dX7_goDay_32 : decode cX7_goDay 32 = .ok (.goto 17, 3) := by decide +kernel
theorem dX7_goDay_35 : decode cX7_goDay 35 = .ok (.aload_n 0, 1) := by decide +kernel
theorem dX7_goDay_36 : decode cX7_goDay 36 = .ok (.aload_n 0, 1) := by decide +kernel
theorem dX7_goDay_37 : decode cX7_goDay 37 = .ok (.getfield 20, 3) := by decide +kernel
theorem dX7_goDay_40 : decode cX7_goDay 40 = .ok (.bipush 20, 2) := by decide +kernel
theorem dX7_goDay_42 : decode cX7_goDay 42 = .ok (.iload_n 1, 1) := by decide +kernel
theorem dX7_goDay_43 : decode cX7_goDay 43 = .ok (.iadd, 1) := by decide +kernel
theorem dX7_goDay_44 : decode cX7_goDay 44 = .ok (.iaload, 1) := by decide +kernel
theorem dX7_goDay_45 : decode cX7_goDay 45 = .ok (.iload_n 1, 1) := by decide +kernel
theorem dX7_goDay_46 : decode cX7_goDay 46 = .ok (.invokevirtual 85, 3) := by decide +kernel
theorem dX7_goDay_49 : decode cX7_goDay 49 = .ok (.iastore, 1) := by decide +kernel
theorem dX7_goDay_50 : decode cX7_goDay 50 = .ok (.iinc 1 1, 3) := by decide +kernel
theorem dX7_goDay_53 : decode cX7_goDay 53 = .ok (.goto (-46), 3) := by decide +kernel
theorem dX7_goDay_56 : decode cX7_goDay 56 = .ok (.iconst 0, 1) := by decide +kernel
theorem dX7_goDay_57 : decode cX7_goDay 57 = .ok (.istore_n 1, 1) := by decide +kernel
theorem dX7_goDay_58 : decode cX7_goDay 58 = .ok (.iload_n 1, 1) := by decide +kernel
theorem dX7_goDay_59 : decode cX7_goDay 59 = .ok (.iconst 4, 1) := by decide +kernel
theorem dX7_goDay_60 : decode cX7_goDay 60 = .ok (.if_icmp .ge 43, 3) := by decide +kernel
theorem dX7_goDay_63 : decode cX7_goDay 63 = .ok (.aload_n 0, 1) := by decide +kernel
theorem dX7_goDay_64 : decode cX7_goDay 64 = .ok (.getfield 20, 3) := by decide +kernel
theorem dX7_goDay_67 : decode cX7_goDay 67 = .ok (.bipush 20, 2) := by decide +kernel
theorem dX7_goDay_69 : decode cX7_goDay 69 = .ok (.iload_n 1, 1) := by decide +kernel
theorem dX7_goDay_70 : decode cX7_goDay 70 = .ok (.iadd, 1) := by decide +kernel
theorem dX7_goDay_71 : decode cX7_goDay 71 = .ok (.iaload, 1) := by decide +kernel
theorem dX7_goDay_72 : decode cX7_goDay 72 = .ok (.bipush (-4), 2) := by decide +kernel
theorem dX7_goDay_74 : decode cX7_goDay 74 = .ok (.if_icmp .eq 23, 3) := by decide +kernel
theorem dX7_goDay_77 : decode cX7_goDay 77 = .ok (.aload_n 0, 1) := by decide +kernel
theorem dX7_goDay_78 : decode cX7_goDay 78 = .ok (.aload_n 0, 1) := by decide +kernel
theorem dX7_goDay_79 : decode cX7_goDay 79 = .ok (.getfield 20, 3) := by decide +kernel
theorem dX7_goDay_82 : decode cX7_goDay 82 = .ok (.bipush 20, 2) := by decide +kernel
theorem dX7_goDay_84 : decode cX7_goDay 84 = .ok (.iload_n 1, 1) := by decide +kernel
theorem dX7_goDay_85 : decode cX7_goDay 85 = .ok (.iadd, 1) := by decide +kernel
theorem dX7_goDay_86 : decode cX7_goDay 86 = .ok (.iaload, 1) := by decide +kernel
theorem dX7_goDay_87 : decode cX7_goDay 87 = .ok (.iload_n 1, 1) := by decide +kernel
theorem dX7_goDay_88 : decode cX7_goDay 88 = .ok (.aload_n 0, 1) := by decide +kernel
theorem dX7_goDay_89 : decode cX7_goDay 89 = .ok (.getfield 51, 3) := by decide +kernel
theorem dX7_goDay_92 : decode cX7_goDay 92 = .ok (.iload_n 1, 1) := by decide +kernel
theorem dX7_goDay_93 : decode cX7_goDay 93 = .ok (.iaload, 1) := by decide +kernel
theorem dX7_goDay_94 : decode cX7_goDay 94 = .ok (.invokevirtual 89, 3) := by decide +kernel
theorem dX7_goDay_97 : decode cX7_goDay 97 = .ok (.iinc 1 1, 3) := by decide +kernel
theorem dX7_goDay_100 : decode cX7_goDay 100 = .ok (.goto (-42), 3) := by decide +kernel
theorem dX7_goDay_103 : decode cX7_goDay 103 = .ok (.iconst 0, 1) := by decide +kernel
theorem dX7_goDay_104 : decode cX7_goDay 104 = .ok (.istore_n 1, 1) := by decide +kernel
theorem dX7_goDay_105 : decode cX7_goDay 105 = .ok (.iload_n 1, 1) := by decide +kernel
theorem dX7_goDay_106 : decode cX7_goDay 106 = .ok (.iconst 4, 1) := by decide +kernel
theorem dX7_goDay_107 : decode cX7_goDay 107 = .ok (.if_icmp .ge 14, 3) := by decide +kernel
theorem dX7_goDay_110 : decode cX7_goDay 110 = .ok (.aload_n 0, 1) := by decide +kernel
theorem dX7_goDay_111 : decode cX7_goDay 111 = .ok (.iload_n 1, 1) := by decide +kernel
theorem dX7_goDay_112 : decode cX7_goDay 112 = .ok (.invokevirtual 93, 3) := by decide +kernel
theorem dX7_goDay_115 : decode cX7_goDay 115 = .ok (.iinc 1 1, 3) := by decide +kernel
theorem dX7_goDay_118 : decode cX7_goDay 118 = .ok (.goto (-13), 3) := by decide +kernel
theorem dX7_goDay_121 : decode cX7_goDay 121 = .ok (.aload_n 0, 1) := by decide +kernel
theorem dX7_goDay_122 : decode cX7_goDay 122 = .ok (.getfield 20, 3) := by decide +kernel
theorem dX7_goDay_125 : decode cX7_goDay 125 = .ok (.bipush 24, 2) := by decide +kernel
theorem dX7_goDay_127 : decode cX7_goDay 127 = .ok (.dup2, 1) := by decide +kernel
theorem dX7_goDay_128 : decode cX7_goDay 128 = .ok (.iaload, 1) := by decide +kernel
theorem dX7_goDay_129 : decode cX7_goDay 129 = .ok (.iconst 1, 1) := by decide +kernel
theorem dX7_goDay_130 : decode cX7_goDay 130 = .ok (.iadd, 1) := by decide +kernel
theorem dX7_goDay_131 : decode cX7_goDay 131 = .ok (.iastore, 1) := by decide +kernel
theorem dX7_goDay_132 : decode cX7_goDay 132 = .ok (.return_, 1) := by decide +kernel
theorem dX7_talkTo_0 : decode cX7_talkTo 0 = .ok (.aload_n 0, 1) := by decide +kernel
theorem dX7_talkTo_1 : decode cX7_talkTo 1 = .ok (.getfield 20, 3) := by decide +kernel
theorem dX7_talkTo_4 : decode cX7_talkTo 4 = .ok (.iconst 4, 1) := by decide +kernel
theorem dX7_talkTo_5 : decode cX7_talkTo 5 = .ok (.iload_n 1, 1) := by decide +kernel
theorem dX7_talkTo_6 : decode cX7_talkTo 6 = .ok (.imul, 1) := by decide +kernel
theorem dX7_talkTo_7 : decode cX7_talkTo 7 = .ok (.iload_n 2, 1) := by decide +kernel
theorem dX7_talkTo_8 : decode cX7_talkTo 8 = .ok (.iadd, 1) := by decide +kernel
theorem dX7_talkTo_9 : decode cX7_talkTo 9 = .ok (.iaload, 1) := by decide +kernel
theorem dX7_talkTo_10 : decode cX7_talkTo 10 = .ok (.iload_n 3, 1) := by decide +kernel
theorem dX7_talkTo_11 : decode cX7_talkTo 11 = .ok (.iadd, 1) := by decide +kernel
theorem dX7_talkTo_12 : decode cX7_talkTo 12 = .ok (.istore 4, 2) := by decide +kernel
theorem dX7_talkTo_14 : decode cX7_talkTo 14 = .ok (.aload_n 0, 1) := by decide +kernel
theorem dX7_talkTo_15 : decode cX7_talkTo 15 = .ok (.getfield 20, 3) := by decide +kernel
theorem dX7_talkTo_18 : decode cX7_talkTo 18 = .ok (.iconst 4, 1) := by decide +kernel
theorem dX7_talkTo_19 : decode cX7_talkTo 19 = .ok (.iload_n 1, 1) := by decide +kernel
theorem dX7_talkTo_20 : decode cX7_talkTo 20 = .ok (.imul, 1) := by decide +kernel
theorem dX7_talkTo_21 : decode cX7_talkTo 21 = .ok (.iload_n 2, 1) := by decide +kernel
theorem dX7_talkTo_22 : decode cX7_talkTo 22 = .ok (.iadd, 1) := by decide +kernel
theorem dX7_talkTo_23 : decode cX7_talkTo 23 = .ok (.iload 4, 2) := by decide +kernel
theorem dX7_talkTo_25 : decode cX7_talkTo 25 = .ok (.bipush 20, 2) := by decide +kernel
theorem dX7_talkTo_27 : decode cX7_talkTo 27 = .ok (.if_icmp .le 8, 3) := by decide +kernel
theorem dX7_talkTo_30 : decode cX7_talkTo 30 = .ok (.bipush 20, 2) := by decide +kernel
theorem dX7_talkTo_32 : decode cX7_talkTo 32 = .ok (.goto 5, 3) := by decide +kernel
theorem dX7_talkTo_35 : decode cX7_talkTo 35 = .ok (.iload 4, 2) := by decide +kernel
theorem dX7_talkTo_37 : decode cX7_talkTo 37 = .ok (.iastore, 1) := by decide +kernel
theorem dX7_talkTo_38 : decode cX7_talkTo 38 = .ok (.return_, 1) := by decide +kernel
theorem dX7_goDays_0 : decode cX7_goDays 0 = .ok (.iconst 0, 1) := by decide +kernel
theorem dX7_goDays_1 : decode cX7_goDays 1 = .ok (.istore_n 2, 1) := by decide +kernel
theorem dX7_goDays_2 : decode cX7_goDays 2 = .ok (.iload_n 2, 1) := by decide +kernel
theorem dX7_goDays_3 : decode cX7_goDays 3 = .ok (.iload_n 1, 1) := by decide +kernel
theorem dX7_goDays_4 : decode cX7_goDays 4 = .ok (.if_icmp .ge 13, 3) := by decide +kernel
theorem dX7_goDays_7 : decode cX7_goDays 7 = .ok (.aload_n 0, 1) := by decide +kernel
theorem dX7_goDays_8 : decode cX7_goDays 8 = .ok (.invokevirtual 97, 3) := by decide +kernel
theorem dX7_goDays_11 : decode cX7_goDays 11 = .ok (.iinc 2 1, 3) := by decide +kernel
theorem dX7_goDays_14 : decode cX7_goDays 14 = .ok (.goto (-12), 3) := by decide +kernel
theorem dX7_goDays_17 : decode cX7_goDays 17 = .ok (.return_, 1) := by decide +kernel
theorem dX7_person_0 : decode cX7_person 0 = .ok (.iload_n 1, 1) := by decide +kernel
theorem dX7_person_1 : decode cX7_person 1 = .ok (.i2l, 1) := by decide +kernel
theorem dX7_person_2 : decode cX7_person 2 = .ok (.lconst 0, 1) := by decide +kernel
theorem dX7_person_3 : decode cX7_person 3 = .ok (.ldc2_w 100, 3) := by decide +kernel
theorem dX7_person_6 : decode cX7_person 6 = .ok (.invokestatic 63, 3) := by decide +kernel
theorem dX7_person_9 : decode cX7_person 9 = .ok (.ifCond .eq 15, 3) := by decide +kernel
theorem dX7_person_12 : decode cX7_person 12 = .ok (.iload_n 2, 1) := by decide +kernel
theorem dX7_person_13 : decode cX7_person 13 = .ok (.i2l, 1) := by decide +kernel
theorem dX7_person_14 : decode cX7_person 14 = .ok (.lconst 0, 1) := by decide +kernel
theorem dX7_person_15 : decode cX7_person 15 = .ok (.ldc2_w 102, 3) := by decide +kernel
theorem dX7_person_18 : decode cX7_person 18 = .ok (.invokestatic 63, 3) := by decide +kernel
theorem dX7_person_21 : decode cX7_person 21 = .ok (.ifCond .ne 5, 3) := by decide +kernel
theorem dX7_person_24 : decode cX7_person 24 = .ok (.iconst (-1), 1) := by decide +kernel
theorem dX7_person_25 : decode cX7_person 25 = .ok (.ireturn, 1) := by decide +kernel
theorem dX7_person_26 : decode cX7_person 26 = .ok (.aload_n 0, 1) := by decide +kernel
theorem dX7_person_27 : decode cX7_person 27 = .ok (.getfield 60, 3) := by decide +kernel
theorem dX7_person_30 : decode cX7_person 30 = .ok (.iconst 5, 1) := by decide +kernel
theorem dX7_person_31 : decode cX7_person 31 = .ok (.if_icmp .ne 6, 3) := by decide +kernel
theorem dX7_person_34 : decode cX7_person 34 = .ok (.bipush (-3), 2) := by decide +kernel
theorem dX7_person_36 : decode cX7_person 36 = .ok (.ireturn, 1) := by decide +kernel
theorem dX7_person_37 : decode cX7_person 37 = .ok (.aload_n 0, 1) := by decide +kernel
theorem dX7_person_38 : decode cX7_person 38 = .ok (.getfield 13, 3) := by decide +kernel
theorem dX7_person_41 : decode cX7_person 41 = .ok (.aload_n 0, 1) := by decide +kernel
theorem dX7_person_42 : decode cX7_person 42 = .ok (.getfield 60, 3) := by decide +kernel
theorem dX7_person_45 : decode cX7_person 45 = .ok (.iload_n 1, 1) := by decide +kernel
theorem dX7_person_46 : decode cX7_person 46 = .ok (.iastore, 1) := by decide +kernel
theorem dX7_person_47 : decode cX7_person 47 = .ok (.iconst 0, 1) := by decide +kernel
theorem dX7_person_48 : decode cX7_person 48 = .ok (.istore_n 3, 1) := by decide +kernel
theorem dX7_person_49 : decode cX7_person 49 = .ok (.iload_n 3, 1) := by decide +kernel
theorem dX7_person_50 : decode cX7_person 50 = .ok (.iconst 4, 1) := by decide +kernel
theorem dX7_person_51 : decode cX7_person 51 = .ok (.if_icmp .ge 23, 3) := by decide +kernel
theorem dX7_person_54 : decode cX7_person 54 = .ok (.aload_n 0, 1) := by decide +kernel
theorem dX7_person_55 : decode cX7_person 55 = .ok (.getfield 17, 3) := by decide +kernel
theorem dX7_person_58 : decode cX7_person 58 = .ok (.iconst 4, 1) := by decide +kernel
theorem dX7_person_59 : decode cX7_person 59 = .ok (.aload_n 0, 1) := by decide +kernel
theorem dX7_person_60 : decode cX7_person 60 = .ok (.getfield 60, 3) := by decide +kernel
theorem dX7_person_63 : decode cX7_person 63 = .ok (.imul, 1) := by decide +kernel
theorem dX7_person_64 : decode cX7_person 64 = .ok (.iload_n 3, 1) := by decide +kernel
theorem dX7_person_65 : decode cX7_person 65 = .ok (.iadd, 1) := by decide +kernel
theorem dX7_person_66 : decode cX7_person 66 = .ok (.iload_n 2, 1) := by decide +kernel
theorem dX7_person_67 : decode cX7_person 67 = .ok (.iastore, 1) := by decide +kernel
theorem dX7_person_68 : decode cX7_person 68 = .ok (.iinc 3 1, 3) := by decide +kernel
theorem dX7_person_71 : decode cX7_person 71 = .ok (.goto (-22), 3) := by decide +kernel
theorem dX7_person_74 : decode cX7_person 74 = .ok (.aload_n 0, 1) := by decide +kernel
theorem dX7_person_75 : decode cX7_person 75 = .ok (.dup, 1) := by decide +kernel
theorem dX7_person_76 : decode cX7_person 76 = .ok (.getfield 60, 3) := by decide +kernel
theorem dX7_person_79 : decode cX7_person 79 = .ok (.iconst 1, 1) := by decide +kernel
theorem dX7_person_80 : decode cX7_person 80 = .ok (.iadd, 1) := by decide +kernel
theorem dX7_person_81 : decode cX7_person 81 = .ok (.putfield 60, 3) := by decide +kernel
theorem dX7_person_84 : decode cX7_person 84 = .ok (.aload_n 0, 1) := by decide +kernel
theorem dX7_person_85 : decode cX7_person 85 = .ok (.iconst 0, 1) := by decide +kernel
theorem dX7_person_86 : decode cX7_person 86 = .ok (.putfield 104, 3) := by decide +kernel
theorem dX7_person_89 : decode cX7_person 89 = .ok (.aload_n 0, 1) := by decide +kernel
theorem dX7_person_90 : decode cX7_person 90 = .ok (.getfield 60, 3) := by decide +kernel
theorem dX7_person_93 : decode cX7_person 93 = .ok (.iconst 1, 1) := by decide +kernel
theorem dX7_person_94 : decode cX7_person 94 = .ok (.isub, 1) := by decide +kernel
theorem dX7_person_95 : decode cX7_person 95 = .ok (.ireturn, 1) := by decide +kernel
theorem dX7_rule_0 : decode cX7_rule 0 = .ok (.iload_n 1, 1) := by decide +kernel
theorem dX7_rule_1 : decode cX7_rule 1 = .ok (.i2l, 1) := by decide +kernel
theorem dX7_rule_2 : decode cX7_rule 2 = .ok (.lconst 1, 1) := by decide +kernel
theorem dX7_rule_3 : decode cX7_rule 3 = .ok (.ldc2_w 102, 3) := by decide +kernel
theorem dX7_rule_6 : decode cX7_rule 6 = .ok (.invokestatic 63, 3) := by decide +kernel
theorem dX7_rule_9 : decode cX7_rule 9 = .ok (.ifCond .ne 5, 3) := by decide +kernel
theorem dX7_rule_12 : decode cX7_rule 12 = .ok (.iconst (-1), 1) := by decide +kernel
theorem dX7_rule_13 : decode cX7_rule 13 = .ok (.ireturn, 1) := by decide +kernel
theorem dX7_rule_14 : decode cX7_rule 14 = .ok (.aload_n 0, 1) := by decide +kernel
theorem dX7_rule_15 : decode cX7_rule 15 = .ok (.getfield 7, 3) := by decide +kernel
theorem dX7_rule_18 : decode cX7_rule 18 = .ok (.istore_n 2, 1) := by decide +kernel
theorem dX7_rule_19 : decode cX7_rule 19 = .ok (.aload_n 0, 1) := by decide +kernel
theorem dX7_rule_20 : decode cX7_rule 20 = .ok (.iload_n 1, 1) := by decide +kernel
theorem dX7_rule_21 : decode cX7_rule 21 = .ok (.putfield 7, 3) := by decide +kernel
theorem dX7_rule_24 : decode cX7_rule 24 = .ok (.iload_n 2, 1) := by decide +kernel
theorem dX7_rule_25 : decode cX7_rule 25 = .ok (.ireturn, 1) := by decide +kernel
theorem dX7_wants_0 : decode cX7_wants 0 = .ok (.aload_n 0, 1) := by decide +kernel
theorem dX7_wants_1 : decode cX7_wants 1 = .ok (.iload_n 1, 1) := by decide +kernel
theorem dX7_wants_2 : decode cX7_wants 2 = .ok (.invokevirtual 107, 3) := by decide +kernel
theorem dX7_wants_5 : decode cX7_wants 5 = .ok (.ifCond .eq 23, 3) := by decide +kernel
theorem dX7_wants_8 : decode cX7_wants 8 = .ok (.iload_n 2, 1) := by decide +kernel
theorem dX7_wants_9 : decode cX7_wants 9 = .ok (.invokestatic 111, 3) := by decide +kernel
theorem dX7_wants_12 : decode cX7_wants 12 = .ok (.ifCond .eq 16, 3) := by decide +kernel
theorem dX7_wants_15 : decode cX7_wants 15 = .ok (.aload_n 0, 1) := by decide +kernel
theorem dX7_wants_16 : decode cX7_wants 16 = .ok (.getfield 17, 3) := by decide +kernel
theorem dX7_wants_19 : decode cX7_wants 19 = .ok (.iconst 4, 1) := by decide +kernel
theorem dX7_wants_20 : decode cX7_wants 20 = .ok (.iload_n 1, 1) := by decide +kernel
theorem dX7_wants_21 : decode cX7_wants 21 = .ok (.imul, 1) := by decide +kernel
theorem dX7_wants_22 : decode cX7_wants 22 = .ok (.iload_n 2, 1) := by decide +kernel
theorem dX7_wants_23 : decode cX7_wants 23 = .ok (.iadd, 1) := by decide +kernel
theorem dX7_wants_24 : decode cX7_wants 24 = .ok (.iaload, 1) := by decide +kernel
theorem dX7_wants_25 : decode cX7_wants 25 = .ok (.goto 4, 3) := by decide +kernel
theorem dX7_wants_28 : decode cX7_wants 28 = .ok (.iconst (-1), 1) := by decide +kernel
theorem dX7_wants_29 : decode cX7_wants 29 = .ok (.ireturn, 1) := by decide +kernel
theorem dX7_sumOf_0 : decode cX7_sumOf 0 = .ok (.aload_n 0, 1) := by decide +kernel
theorem dX7_sumOf_1 : decode cX7_sumOf 1 = .ok (.getfield 17, 3) := by decide +kernel
theorem dX7_sumOf_4 : decode cX7_sumOf 4 = .ok (.iconst 4, 1) := by decide +kernel
theorem dX7_sumOf_5 : decode cX7_sumOf 5 = .ok (.iload_n 1, 1) := by decide +kernel
theorem dX7_sumOf_6 : decode cX7_sumOf 6 = .ok (.imul, 1) := by decide +kernel
theorem dX7_sumOf_7 : decode cX7_sumOf 7 = .ok (.iaload, 1) := by decide +kernel
theorem dX7_sumOf_8 : decode cX7_sumOf 8 = .ok (.aload_n 0, 1) := by decide +kernel
theorem dX7_sumOf_9 : decode cX7_sumOf 9 = .ok (.getfield 17, 3) := by decide +kernel
theorem dX7_sumOf_12 : decode cX7_sumOf 12 = .ok (.iconst 4, 1) := by decide +kernel
theorem dX7_sumOf_13 : decode cX7_sumOf 13 = .ok (.iload_n 1, 1) := by decide +kernel
theorem dX7_sumOf_14 : decode cX7_sumOf 14 = .ok (.imul, 1) := by decide +kernel
theorem dX7_sumOf_15 : decode cX7_sumOf 15 = .ok (.iconst 1, 1) := by decide +kernel
theorem dX7_sumOf_16 : decode cX7_sumOf 16 = .ok (.iadd, 1) := by decide +kernel
theorem dX7_sumOf_17 : decode cX7_sumOf 17 = .ok (.iaload, 1) := by decide +kernel
theorem dX7_sumOf_18 : decode cX7_sumOf 18 = .ok (.iadd, 1) := by decide +kernel
theorem dX7_sumOf_19 : decode cX7_sumOf 19 = .ok (.aload_n 0, 1) := by decide +kernel
theorem dX7_sumOf_20 : decode cX7_sumOf 20 = .ok (.getfield 17, 3) := by decide +kernel
theorem dX7_sumOf_23 : decode cX7_sumOf 23 = .ok (.iconst 4, 1) := by decide +kernel
theorem dX7_sumOf_24 : decode cX7_sumOf 24 = .ok (.iload_n 1, 1) := by decide +kernel
theorem dX7_sumOf_25 : decode cX7_sumOf 25 = .ok (.imul, 1) := by decide +kernel
theorem dX7_sumOf_26 : decode cX7_sumOf 26 = .ok (.iconst 2, 1) := by decide +kernel
theorem dX7_sumOf_27 : decode cX7_sumOf 27 = .ok (.iadd, 1) := by decide +kernel
theorem dX7_sumOf_28 : decode cX7_sumOf 28 = .ok (.iaload, 1) := by decide +kernel
theorem dX7_sumOf_29 : decode cX7_sumOf 29 = .ok (.iadd, 1) := by decide +kernel
theorem dX7_sumOf_30 : decode cX7_sumOf 30 = .ok (.aload_n 0, 1) := by decide +kernel
theorem dX7_sumOf_31 : decode cX7_sumOf 31 = .ok (.getfield 17, 3) := by decide +kernel
theorem dX7_sumOf_34 : decode cX7_sumOf 34 = .ok (.iconst 4, 1) := by decide +kernel
theorem dX7_sumOf_35 : decode cX7_sumOf 35 = .ok (.iload_n 1, 1) := by decide +kernel
theorem dX7_sumOf_36 : decode cX7_sumOf 36 = .ok (.imul, 1) := by decide +kernel
theorem dX7_sumOf_37 : decode cX7_sumOf 37 = .ok (.iconst 3, 1) := by decide +kernel
theorem dX7_sumOf_38 : decode cX7_sumOf 38 = .ok (.iadd, 1) := by decide +kernel
theorem dX7_sumOf_39 : decode cX7_sumOf 39 = .ok (.iaload, 1) := by decide +kernel
theorem dX7_sumOf_40 : decode cX7_sumOf 40 = .ok (.iadd, 1) := by decide +kernel
theorem dX7_sumOf_41 : decode cX7_sumOf 41 = .ok (.ireturn, 1) := by decide +kernel
theorem dX7_keySet_0 : decode cX7_keySet 0 = .ok (.iconst 0, 1) := by decide +kernel
theorem dX7_keySet_1 : decode cX7_keySet 1 = .ok (.istore_n 2, 1) := by decide +kernel
theorem dX7_keySet_2 : decode cX7_keySet 2 = .ok (.iconst 0, 1) := by decide +kernel
theorem dX7_keySet_3 : decode cX7_keySet 3 = .ok (.istore_n 3, 1) := by decide +kernel
theorem dX7_keySet_4 : decode cX7_keySet 4 = .ok (.iload_n 3, 1) := by decide +kernel
theorem dX7_keySet_5 : decode cX7_keySet 5 = .ok (.iconst 4, 1) := by decide +kernel
theorem dX7_keySet_6 : decode cX7_keySet 6 = .ok (.if_icmp .ge 32, 3) := by decide +kernel
theorem dX7_keySet_9 : decode cX7_keySet 9 = .ok (.iload_n 2, 1) := by decide +kernel
theorem dX7_keySet_10 : decode cX7_keySet 10 = .ok (.aload_n 0, 1) := by decide +kernel
theorem dX7_keySet_11 : decode cX7_keySet 11 = .ok (.getfield 17, 3) := by decide +kernel
theorem dX7_keySet_14 : decode cX7_keySet 14 = .ok (.bipush 20, 2) := by decide +kernel
theorem dX7_keySet_16 : decode cX7_keySet 16 = .ok (.iload_n 3, 1) := by decide +kernel
theorem dX7_keySet_17 : decode cX7_keySet 17 = .ok (.iadd, 1) := by decide +kernel
theorem dX7_keySet_18 : decode cX7_keySet 18 = .ok (.iaload, 1) := by decide +kernel
theorem dX7_keySet_19 : decode cX7_keySet 19 = .ok (.iload_n 1, 1) := by decide +kernel
theorem dX7_keySet_20 : decode cX7_keySet 20 = .ok (.if_icmp .ne 9, 3) := by decide +kernel
theorem dX7_keySet_23 : decode cX7_keySet 23 = .ok (.iconst 1, 1) := by decide +kernel
theorem dX7_keySet_24 : decode cX7_keySet 24 = .ok (.iload_n 3, 1) := by decide +kernel
theorem dX7_keySet_25 : decode cX7_keySet 25 = .ok (.ishl, 1) := by decide +kernel
theorem dX7_keySet_26 : decode cX7_keySet 26 = .ok (.goto 4, 3) := by decide +kernel
theorem dX7_keySet_29 : decode cX7_keySet 29 = .ok (.iconst 0, 1) := by decide +kernel
theorem dX7_keySet_30 : decode cX7_keySet 30 = .ok (.ior, 1) := by decide +kernel
theorem dX7_keySet_31 : decode cX7_keySet 31 = .ok (.istore_n 2, 1) := by decide +kernel
theorem dX7_keySet_32 : decode cX7_keySet 32 = .ok (.iinc 3 1, 3) := by decide +kernel
theorem dX7_keySet_35 : decode cX7_keySet 35 = .ok (.goto (-31), 3) := by decide +kernel
theorem dX7_keySet_38 : decode cX7_keySet 38 = .ok (.iload_n 2, 1) := by decide +kernel
theorem dX7_keySet_39 : decode cX7_keySet 39 = .ok (.ireturn, 1) := by decide +kernel
theorem dX7_of_0 : decode cX7_of 0 = .ok (.aload_n 0, 1) := by decide +kernel
theorem dX7_of_1 : decode cX7_of 1 = .ok (.iload_n 1, 1) := by decide +kernel
theorem dX7_of_2 : decode cX7_of 2 = .ok (.invokevirtual 107, 3) := by decide +kernel
theorem dX7_of_5 : decode cX7_of 5 = .ok (.ifCond .eq 15, 3) := by decide +kernel
theorem dX7_of_8 : decode cX7_of 8 = .ok (.iload_n 2, 1) := by decide +kernel
theorem dX7_of_9 : decode cX7_of 9 = .ok (.i2l, 1) := by decide +kernel
theorem dX7_of_10 : decode cX7_of 10 = .ok (.lconst 0, 1) := by decide +kernel
theorem dX7_of_11 : decode cX7_of 11 = .ok (.ldc2_w 114, 3) := by decide +kernel
theorem dX7_of_14 : decode cX7_of 14 = .ok (.invokestatic 63, 3) := by decide +kernel
theorem dX7_of_17 : decode cX7_of 17 = .ok (.ifCond .ne 5, 3) := by decide +kernel
theorem dX7_of_20 : decode cX7_of 20 = .ok (.iconst (-1), 1) := by decide +kernel
theorem dX7_of_21 : decode cX7_of 21 = .ok (.ireturn, 1) := by decide +kernel
theorem dX7_of_22 : decode cX7_of 22 = .ok (.iload_n 2, 1) := by decide +kernel
theorem dX7_of_23 : decode cX7_of 23 = .ok (.ifCond .ne 12, 3) := by decide +kernel
theorem dX7_of_26 : decode cX7_of 26 = .ok (.aload_n 0, 1) := by decide +kernel
theorem dX7_of_27 : decode cX7_of 27 = .ok (.getfield 13, 3) := by decide +kernel
theorem dX7_of_30 : decode cX7_of 30 = .ok (.iload_n 1, 1) := by decide +kernel
theorem dX7_of_31 : decode cX7_of 31 = .ok (.iaload, 1) := by decide +kernel
theorem dX7_of_32 : decode cX7_of 32 = .ok (.goto 21, 3) := by decide +kernel
theorem dX7_of_35 : decode cX7_of 35 = .ok (.iload_n 2, 1) := by decide +kernel
theorem dX7_of_36 : decode cX7_of 36 = .ok (.iconst 1, 1) := by decide +kernel
theorem dX7_of_37 : decode cX7_of 37 = .ok (.if_icmp .ne 11, 3) := by decide +kernel
theorem dX7_of_40 : decode cX7_of 40 = .ok (.aload_n 0, 1) := by decide +kernel
theorem dX7_of_41 : decode cX7_of 41 = .ok (.iload_n 1, 1) := by decide +kernel
theorem dX7_of_42 : decode cX7_of 42 = .ok (.invokevirtual 116, 3) := by decide +kernel
theorem dX7_of_45 : decode cX7_of 45 = .ok (.goto 8, 3) := by decide +kernel
theorem dX7_of_48 : decode cX7_of 48 = .ok (.aload_n 0, 1) := by decide +kernel
theorem dX7_of_49 : decode cX7_of 49 = .ok (.iload_n 1, 1) := by decide +kernel
theorem dX7_of_50 : decode cX7_of 50 = .ok (.invokevirtual 119, 3) := by decide +kernel
theorem dX7_of_53 : decode cX7_of 53 = .ok (.ireturn, 1) := by decide +kernel
theorem dX7_at_0 : decode cX7_at 0 = .ok (.iload_n 1, 1) := by decide +kernel
theorem dX7_at_1 : decode cX7_at 1 = .ok (.invokestatic 111, 3) := by decide +kernel
theorem dX7_at_4 : decode cX7_at 4 = .ok (.ifCond .eq 15, 3) := by decide +kernel
theorem dX7_at_7 : decode cX7_at 7 = .ok (.iload_n 2, 1) := by decide +kernel
theorem dX7_at_8 : decode cX7_at 8 = .ok (.i2l, 1) := by decide +kernel
theorem dX7_at_9 : decode cX7_at 9 = .ok (.lconst 0, 1) := by decide +kernel
theorem dX7_at_10 : decode cX7_at 10 = .ok (.ldc2_w 114, 3) := by decide +kernel
theorem dX7_at_13 : decode cX7_at 13 = .ok (.invokestatic 63, 3) := by decide +kernel
theorem dX7_at_16 : decode cX7_at 16 = .ok (.ifCond .ne 5, 3) := by decide +kernel
theorem dX7_at_19 : decode cX7_at 19 = .ok (.iconst (-1), 1) := by decide +kernel
theorem dX7_at_20 : decode cX7_at 20 = .ok (.ireturn, 1) := by decide +kernel
theorem dX7_at_21 : decode cX7_at 21 = .ok (.aload_n 0, 1) := by decide +kernel
theorem dX7_at_22 : decode cX7_at 22 = .ok (.invokevirtual 122, 3) := by decide +kernel
theorem dX7_at_25 : decode cX7_at 25 = .ok (.aload_n 0, 1) := by decide +kernel
theorem dX7_at_26 : decode cX7_at 26 = .ok (.getfield 17, 3) := by decide +kernel
theorem dX7_at_29 : decode cX7_at 29 = .ok (.bipush 20, 2) := by decide +kernel
theorem dX7_at_31 : decode cX7_at 31 = .ok (.iload_n 1, 1) := by decide +kernel
theorem dX7_at_32 : decode cX7_at 32 = .ok (.iadd, 1) := by decide +kernel
theorem dX7_at_33 : decode cX7_at 33 = .ok (.iaload, 1) := by decide +kernel
theorem dX7_at_34 : decode cX7_at 34 = .ok (.istore_n 3, 1) := by decide +kernel
theorem dX7_at_35 : decode cX7_at 35 = .ok (.iload_n 2, 1) := by decide +kernel
theorem dX7_at_36 : decode cX7_at 36 = .ok (.ifCond .ne 7, 3) := by decide +kernel
theorem dX7_at_39 : decode cX7_at 39 = .ok (.iload_n 3, 1) := by decide +kernel
theorem dX7_at_40 : decode cX7_at 40 = .ok (.goto 32, 3) := by decide +kernel
theorem dX7_at_43 : decode cX7_at 43 = .ok (.iload_n 2, 1) := by decide +kernel
theorem dX7_at_44 : decode cX7_at 44 = .ok (.iconst 1, 1) := by decide +kernel
theorem dX7_at_45 : decode cX7_at 45 = .ok (.if_icmp .ne 22, 3) := by decide +kernel
theorem dX7_at_48 : decode cX7_at 48 = .ok (.iload_n 3, 1) := by decide +kernel
theorem dX7_at_49 : decode cX7_at 49 = .ok (.bipush (-4), 2) := by decide +kernel
theorem dX7_at_51 : decode cX7_at 51 = .ok (.if_icmp .ne 7, 3) := by decide +kernel
theorem dX7_at_54 : decode cX7_at 54 = .ok (.iconst 0, 1) := by decide +kernel
theorem dX7_at_55 : decode cX7_at 55 = .ok (.goto 17, 3) := by decide +kernel
theorem dX7_at_58 : decode cX7_at 58 = .ok (.aload_n 0, 1) := by decide +kernel
theorem dX7_at_59 : decode cX7_at 59 = .ok (.iload_n 3, 1) := by decide +kernel
theorem dX7_at_60 : decode cX7_at 60 = .ok (.iload_n 1, 1) := by decide +kernel
theorem dX7_at_61 : decode cX7_at 61 = .ok (.invokevirtual 85, 3) := by decide +kernel
theorem dX7_at_64 : decode cX7_at 64 = .ok (.goto 8, 3) := by decide +kernel
theorem dX7_at_67 : decode cX7_at 67 = .ok (.aload_n 0, 1) := by decide +kernel
theorem dX7_at_68 : decode cX7_at 68 = .ok (.iload_n 1, 1) := by decide +kernel
theorem dX7_at_69 : decode cX7_at 69 = .ok (.invokevirtual 82, 3) := by decide +kernel
theorem dX7_at_72 : decode cX7_at 72 = .ok (.ireturn, 1) := by decide +kernel
theorem dX7_type_0 : decode cX7_type 0 = .ok (.iload_n 1, 1) := by decide +kernel
theorem dX7_type_1 : decode cX7_type 1 = .ok (.i2l, 1) := by decide +kernel
theorem dX7_type_2 : decode cX7_type 2 = .ok (.ldc2_w 125, 3) := by decide +kernel
theorem dX7_type_5 : decode cX7_type 5 = .ok (.ldc2_w 127, 3) := by decide +kernel
theorem dX7_type_8 : decode cX7_type 8 = .ok (.invokestatic 63, 3) := by decide +kernel
theorem dX7_type_11 : decode cX7_type 11 = .ok (.ifCond .ne 5, 3) := by decide +kernel
theorem dX7_type_14 : decode cX7_type 14 = .ok (.iconst (-1), 1) := by decide +kernel
theorem dX7_type_15 : decode cX7_type 15 = .ok (.ireturn, 1) := by decide +kernel
theorem dX7_type_16 : decode cX7_type 16 = .ok (.aload_n 0, 1) := by decide +kernel
theorem dX7_type_17 : decode cX7_type 17 = .ok (.getfield 129, 3) := by decide +kernel
theorem dX7_type_20 : decode cX7_type 20 = .ok (.bipush 50, 2) := by decide +kernel
theorem dX7_type_22 : decode cX7_type 22 = .ok (.if_icmp .ne 6, 3) := by decide +kernel
theorem dX7_type_25 : decode cX7_type 25 = .ok (.bipush (-3), 2) := by decide +kernel
theorem dX7_type_27 : decode cX7_type 27 = .ok (.ireturn, 1) := by decide +kernel
theorem dX7_type_28 : decode cX7_type 28 = .ok (.aload_n 0, 1) := by decide +kernel
theorem dX7_type_29 : decode cX7_type 29 = .ok (.getfield 45, 3) := by decide +kernel
theorem dX7_type_32 : decode cX7_type 32 = .ok (.aload_n 0, 1) := by decide +kernel
theorem dX7_type_33 : decode cX7_type 33 = .ok (.getfield 129, 3) := by decide +kernel
theorem dX7_type_36 : decode cX7_type 36 = .ok (.iload_n 1, 1) := by decide +kernel
theorem dX7_type_37 : decode cX7_type 37 = .ok (.iastore, 1) := by decide +kernel
theorem dX7_type_38 : decode cX7_type 38 = .ok (.aload_n 0, 1) := by decide +kernel
theorem dX7_type_39 : decode cX7_type 39 = .ok (.dup, 1) := by decide +kernel
theorem dX7_type_40 : decode cX7_type 40 = .ok (.getfield 129, 3) := by decide +kernel
theorem dX7_type_43 : decode cX7_type 43 = .ok (.iconst 1, 1) := by decide +kernel
theorem dX7_type_44 : decode cX7_type 44 = .ok (.iadd, 1) := by decide +kernel
theorem dX7_type_45 : decode cX7_type 45 = .ok (.putfield 129, 3) := by decide +kernel
theorem dX7_type_48 : decode cX7_type 48 = .ok (.aload_n 0, 1) := by decide +kernel
theorem dX7_type_49 : decode cX7_type 49 = .ok (.getfield 129, 3) := by decide +kernel
theorem dX7_type_52 : decode cX7_type 52 = .ok (.ireturn, 1) := by decide +kernel
theorem dX7_next_0 : decode cX7_next 0 = .ok (.aload_n 0, 1) := by decide +kernel
theorem dX7_next_1 : decode cX7_next 1 = .ok (.getfield 132, 3) := by decide +kernel
theorem dX7_next_4 : decode cX7_next 4 = .ok (.aload_n 0, 1) := by decide +kernel
theorem dX7_next_5 : decode cX7_next 5 = .ok (.getfield 129, 3) := by decide +kernel
theorem dX7_next_8 : decode cX7_next 8 = .ok (.if_icmp .ge 30, 3) := by decide +kernel
theorem dX7_next_11 : decode cX7_next 11 = .ok (.aload_n 0, 1) := by decide +kernel
theorem dX7_next_12 : decode cX7_next 12 = .ok (.getfield 45, 3) := by decide +kernel
theorem dX7_next_15 : decode cX7_next 15 = .ok (.aload_n 0, 1) := by decide +kernel
theorem dX7_next_16 : decode cX7_next 16 = .ok (.getfield 132, 3) := by decide +kernel
theorem dX7_next_19 : decode cX7_next 19 = .ok (.iaload, 1) := by decide +kernel
theorem dX7_next_20 : decode cX7_next 20 = .ok (.bipush 32, 2) := by decide +kernel
theorem dX7_next_22 : decode cX7_next 22 = .ok (.if_icmp .ne 16, 3) := by decide +kernel
theorem dX7_next_25 : decode cX7_next 25 = .ok (.aload_n 0, 1) := by decide +kernel
theorem dX7_next_26 : decode cX7_next 26 = .ok (.dup, 1) := by decide +kernel
theorem dX7_next_27 : decode cX7_next 27 = .ok (.getfield 132, 3) := by decide +kernel
theorem dX7_next_30 : decode cX7_next 30 = .ok (.iconst 1, 1) := by decide +kernel
theorem dX7_next_31 : decode cX7_next 31 = .ok (.iadd, 1) := by decide +kernel
theorem dX7_next_32 : decode cX7_next 32 = .ok (.putfield 132, 3) := by decide +kernel
theorem dX7_next_35 : decode cX7_next 35 = .ok (.goto (-35), 3) := by decide +kernel
theorem dX7_next_38 : decode cX7_next 38 = .ok (.aload_n 0, 1) := by decide +kernel
theorem dX7_next_39 : decode cX7_next 39 = .ok (.aload_n 0, 1) := by decide +kernel
theorem dX7_next_40 : decode cX7_next 40 = .ok (.getfield 132, 3) := by decide +kernel
theorem dX7_next_43 : decode cX7_next 43 = .ok (.putfield 135, 3) := by decide +kernel
theorem dX7_next_46 : decode cX7_next 46 = .ok (.aload_n 0, 1) := by decide +kernel
theorem dX7_next_47 : decode cX7_next 47 = .ok (.dup, 1) := by decide +kernel
theorem dX7_next_48 : decode cX7_next 48 = .ok (.getfield 132, 3) := by decide +kernel
theorem dX7_next_51 : decode cX7_next 51 = .ok (.iconst 1, 1) := by decide +kernel
theorem dX7_next_52 : decode cX7_next 52 = .ok (.iadd, 1) := by decide +kernel
theorem dX7_next_53 : decode cX7_next 53 = .ok (.putfield 132, 3) := by decide +kernel
theorem dX7_next_56 : decode cX7_next 56 = .ok (.aload_n 0, 1) := by decide +kernel
theorem dX7_next_57 : decode cX7_next 57 = .ok (.getfield 135, 3) := by decide +kernel
theorem dX7_next_60 : decode cX7_next 60 = .ok (.aload_n 0, 1) := by decide +kernel
theorem dX7_next_61 : decode cX7_next 61 = .ok (.getfield 129, 3) := by decide +kernel
theorem dX7_next_64 : decode cX7_next 64 = .ok (.if_icmp .ge 15, 3) := by decide +kernel
theorem dX7_next_67 : decode cX7_next 67 = .ok (.aload_n 0, 1) := by decide +kernel
theorem dX7_next_68 : decode cX7_next 68 = .ok (.getfield 45, 3) := by decide +kernel
theorem dX7_next_71 : decode cX7_next 71 = .ok (.aload_n 0, 1) := by decide +kernel
theorem dX7_next_72 : decode cX7_next 72 = .ok (.getfield 135, 3) := by decide +kernel
theorem dX7_next_75 : decode cX7_next 75 = .ok (.iaload, 1) := by decide +kernel
theorem dX7_next_76 : decode cX7_next 76 = .ok (.goto 4, 3) := by decide +kernel
theorem dX7_next_79 : decode cX7_next 79 = .ok (.iconst 0, 1) := by decide +kernel
theorem dX7_next_80 : decode cX7_next 80 = .ok (.ireturn, 1) := by decide +kernel
theorem dX7_isDigit_0 : decode cX7_isDigit 0 = .ok (.iload_n 0, 1) := by decide +kernel
theorem dX7_isDigit_1 : decode cX7_isDigit 1 = .ok (.i2l, 1) := by decide +kernel
theorem dX7_isDigit_2 : decode cX7_isDigit 2 = .ok (.ldc2_w 138, 3) := by decide +kernel
theorem dX7_isDigit_5 : decode cX7_isDigit 5 = .ok (.ldc2_w 140, 3) := by decide +kernel
theorem dX7_isDigit_8 : decode cX7_isDigit 8 = .ok (.invokestatic 63, 3) := by decide +kernel
theorem dX7_isDigit_11 : decode cX7_isDigit 11 = .ok (.ireturn, 1) := by decide +kernel
theorem dX7_number_0 : decode cX7_number 0 = .ok (.aload_n 0, 1) := by decide +kernel
theorem dX7_number_1 : decode cX7_number 1 = .ok (.invokevirtual 142, 3) := by decide +kernel
theorem dX7_number_4 : decode cX7_number 4 = .ok (.istore_n 1, 1) := by decide +kernel
theorem dX7_number_5 : decode cX7_number 5 = .ok (.iload_n 1, 1) := by decide +kernel
theorem dX7_number_6 : decode cX7_number 6 = .ok (.invokestatic 146, 3) := by decide +kernel
theorem dX7_number_9 : decode cX7_number 9 = .ok (.ifCond .ne 5, 3) := by decide +kernel
theorem dX7_number_12 : decode cX7_number 12 = .ok (.iconst 0, 1) := by decide +kernel
theorem dX7_number_13 : decode cX7_number 13 = .ok (.ireturn, 1) := by decide +kernel
theorem dX7_number_14 : decode cX7_number 14 = .ok (.aload_n 0, 1) := by decide +kernel
theorem dX7_number_15 : decode cX7_number 15 = .ok (.iload_n 1, 1) := by decide +kernel
theorem dX7_number_16 : decode cX7_number 16 = .ok (.bipush 48, 2) := by decide +kernel
theorem dX7_number_18 : decode cX7_number 18 = .ok (.isub, 1) := by decide +kernel
theorem dX7_number_19 : decode cX7_number 19 = .ok (.putfield 149, 3) := by decide +kernel
theorem dX7_number_22 : decode cX7_number 22 = .ok (.aload_n 0, 1) := by decide +kernel
theorem dX7_number_23 : decode cX7_number 23 = .ok (.getfield 132, 3) := by decide +kernel
theorem dX7_number_26 : decode cX7_number 26 = .ok (.aload_n 0, 1) := by decide +kernel
theorem dX7_number_27 : decode cX7_number 27 = .ok (.getfield 129, 3) := by decide +kernel
theorem dX7_number_30 : decode cX7_number 30 = .ok (.if_icmp .ge 52, 3) := by decide +kernel
theorem dX7_number_33 : decode cX7_number 33 = .ok (.aload_n 0, 1) := by decide +kernel
theorem dX7_number_34 : decode cX7_number 34 = .ok (.getfield 45, 3) := by decide +kernel
theorem dX7_number_37 : decode cX7_number 37 = .ok (.aload_n 0, 1) := by decide +kernel
theorem dX7_number_38 : decode cX7_number 38 = .ok (.getfield 132, 3) := by decide +kernel
theorem dX7_number_41 : decode cX7_number 41 = .ok (.iaload, 1) := by decide +kernel
theorem dX7_number_42 : decode cX7_number 42 = .ok (.invokestatic 146, 3) := by decide +kernel
theorem dX7_number_45 : decode cX7_number 45 = .ok (.ifCond .eq 37, 3) := by decide +kernel
theorem dX7_number_48 : decode cX7_number 48 = .ok (.aload_n 0, 1) := by decide +kernel
theorem dX7_number_49 : decode cX7_number 49 = .ok (.bipush 10, 2) := by decide +kernel
theorem dX7_number_51 : decode cX7_number 51 = .ok (.aload_n 0, 1) := by decide +kernel
theorem dX7_number_52 : decode cX7_number 52 = .ok (.getfield 149, 3) := by decide +kernel
theorem dX7_number_55 : decode cX7_number 55 = .ok (.imul, 1) := by decide +kernel
theorem dX7_number_56 : decode cX7_number 56 = .ok (.aload_n 0, 1) := by decide +kernel
theorem dX7_number_57 : decode cX7_number 57 = .ok (.getfield 45, 3) := by decide +kernel
theorem dX7_number_60 : decode cX7_number 60 = .ok (.aload_n 0, 1) := by decide +kernel
theorem dX7_number_61 : decode cX7_number 61 = .ok (.getfield 132, 3) := by decide +kernel
theorem dX7_number_64 : decode cX7_number 64 = .ok (.iaload, 1) := by decide +kernel
theorem dX7_number_65 : decode cX7_number 65 = .ok (.iadd, 1) := by decide +kernel
theorem dX7_number_66 : decode cX7_number 66 = .ok (.bipush 48, 2) := by decide +kernel
theorem dX7_number_68 : decode cX7_number 68 = .ok (.isub, 1) := by decide +kernel
theorem dX7_number_69 : decode cX7_number 69 = .ok (.putfield 149, 3) := by decide +kernel
theorem dX7_number_72 : decode cX7_number 72 = .ok (.aload_n 0, 1) := by decide +kernel
theorem dX7_number_73 : decode cX7_number 73 = .ok (.dup, 1) := by decide +kernel
theorem dX7_number_74 : decode cX7_number 74 = .ok (.getfield 132, 3) := by decide +kernel
theorem dX7_number_77 : decode cX7_number 77 = .ok (.iconst 1, 1) := by decide +kernel
theorem dX7_number_78 : decode cX7_number 78 = .ok (.iadd, 1) := by decide +kernel
theorem dX7_number_79 : decode cX7_number 79 = .ok (.putfield 132, 3) := by decide +kernel
theorem dX7_number_82 : decode cX7_number 82 = .ok (.aload_n 0, 1) := by decide +kernel
theorem dX7_number_83 : decode cX7_number 83 = .ok (.getfield 149, 3) := by decide +kernel
theorem dX7_number_86 : decode cX7_number 86 = .ok (.i2l, 1) := by decide +kernel
theorem dX7_number_87 : decode cX7_number 87 = .ok (.lconst 1, 1) := by decide +kernel
theorem dX7_number_88 : decode cX7_number 88 = .ok (.ldc2_w 102, 3) := by decide +kernel
theorem dX7_number_91 : decode cX7_number 91 = .ok (.invokestatic 63, 3) := by decide +kernel
theorem dX7_number_94 : decode cX7_number 94 = .ok (.ireturn, 1) := by decide +kernel
theorem dX7_kindBy_0 : decode cX7_kindBy 0 = .ok (.iload_n 0, 1) := by decide +kernel
theorem dX7_kindBy_1 : decode cX7_kindBy 1 = .ok (.bipush 100, 2) := by decide +kernel
theorem dX7_kindBy_3 : decode cX7_kindBy 3 = .ok (.if_icmp .ne 7, 3) := by decide +kernel
theorem dX7_kindBy_6 : decode cX7_kindBy 6 = .ok (.iconst 0, 1) := by decide +kernel
theorem dX7_kindBy_7 : decode cX7_kindBy 7 = .ok (.goto 45, 3) := by decide +kernel
theorem dX7_kindBy_10 : decode cX7_kindBy 10 = .ok (.iload_n 0, 1) := by decide +kernel
theorem dX7_kindBy_11 : decode cX7_kindBy 11 = .ok (.bipush 99, 2) := by decide +kernel
theorem dX7_kindBy_13 : decode cX7_kindBy 13 = .ok (.if_icmp .ne 7, 3) := by decide +kernel
theorem dX7_kindBy_16 : decode cX7_kindBy 16 = .ok (.iconst 1, 1) := by decide +kernel
theorem dX7_kindBy_17 : decode cX7_kindBy 17 = .ok (.goto 35, 3) := by decide +kernel
theorem dX7_kindBy_20 : decode cX7_kindBy 20 = .ok (.iload_n 0, 1) := by decide +kernel
theorem dX7_kindBy_21 : decode cX7_kindBy 21 = .ok (.bipush 111, 2) := by decide +kernel
theorem dX7_kindBy_23 : decode cX7_kindBy 23 = .ok (.if_icmp .ne 7, 3) := by decide +kernel
theorem dX7_kindBy_26 : decode cX7_kindBy 26 = .ok (.iconst 2, 1) := by decide +kernel
theorem dX7_kindBy_27 : decode cX7_kindBy 27 = .ok (.goto 25, 3) := by decide +kernel
theorem dX7_kindBy_30 : decode cX7_kindBy 30 = .ok (.iload_n 0, 1) := by decide +kernel
theorem dX7_kindBy_31 : decode cX7_kindBy 31 = .ok (.bipush 108, 2) := by decide +kernel
theorem dX7_kindBy_33 : decode cX7_kindBy 33 = .ok (.if_icmp .ne 7, 3) := by decide +kernel
theorem dX7_kindBy_36 : decode cX7_kindBy 36 = .ok (.iconst 3, 1) := by decide +kernel
theorem dX7_kindBy_37 : decode cX7_kindBy 37 = .ok (.goto 15, 3) := by decide +kernel
theorem dX7_kindBy_40 : decode cX7_kindBy 40 = .ok (.iload_n 0, 1) := by decide +kernel
theorem dX7_kindBy_41 : decode cX7_kindBy 41 = .ok (.bipush 98, 2) := by decide +kernel
theorem dX7_kindBy_43 : decode cX7_kindBy 43 = .ok (.if_icmp .ne 7, 3) := by decide +kernel
theorem dX7_kindBy_46 : decode cX7_kindBy 46 = .ok (.iconst 4, 1) := by decide +kernel
theorem dX7_kindBy_47 : decode cX7_kindBy 47 = .ok (.goto 5, 3) := by decide +kernel
theorem dX7_kindBy_50 : decode cX7_kindBy 50 = .ok (.bipush (-4), 2) := by decide +kernel
theorem dX7_kindBy_52 : decode cX7_kindBy 52 = .ok (.ireturn, 1) := by decide +kernel
theorem dX7_one_0 : decode cX7_one 0 = .ok (.aload_n 0, 1) := by decide +kernel
theorem dX7_one_1 : decode cX7_one 1 = .ok (.invokevirtual 142, 3) := by decide +kernel
theorem dX7_one_4 : decode cX7_one 4 = .ok (.invokestatic 152, 3) := by decide +kernel
theorem dX7_one_7 : decode cX7_one 7 = .ok (.istore_n 1, 1) := by decide +kernel
theorem dX7_one_8 : decode cX7_one 8 = .ok (.iload_n 1, 1) := by decide +kernel
theorem dX7_one_9 : decode cX7_one 9 = .ok (.bipush (-4), 2) := by decide +kernel
theorem dX7_one_11 : decode cX7_one 11 = .ok (.if_icmp .ne 5, 3) := by decide +kernel
theorem dX7_one_14 : decode cX7_one 14 = .ok (.iconst 0, 1) := by decide +kernel
theorem dX7_one_15 : decode cX7_one 15 = .ok (.ireturn, 1) := by decide +kernel
theorem dX7_one_16 : decode cX7_one 16 = .ok (.aload_n 0, 1) := by decide +kernel
theorem dX7_one_17 : decode cX7_one 17 = .ok (.getfield 54, 3) := by decide +kernel
theorem dX7_one_20 : decode cX7_one 20 = .ok (.aload_n 0, 1) := by decide +kernel
theorem dX7_one_21 : decode cX7_one 21 = .ok (.getfield 155, 3) := by decide +kernel
theorem dX7_one_24 : decode cX7_one 24 = .ok (.iload_n 1, 1) := by decide +kernel
theorem dX7_one_25 : decode cX7_one 25 = .ok (.iastore, 1) := by decide +kernel
theorem dX7_one_26 : decode cX7_one 26 = .ok (.iconst 0, 1) := by decide +kernel
theorem dX7_one_27 : decode cX7_one 27 = .ok (.istore_n 2, 1) := by decide +kernel
theorem dX7_one_28 : decode cX7_one 28 = .ok (.iload_n 2, 1) := by decide +kernel
theorem dX7_one_29 : decode cX7_one 29 = .ok (.iconst 4, 1) := by decide +kernel
theorem dX7_one_30 : decode cX7_one 30 = .ok (.if_icmp .ge 47, 3) := by decide +kernel
theorem dX7_one_33 : decode cX7_one 33 = .ok (.aload_n 0, 1) := by decide +kernel
theorem dX7_one_34 : decode cX7_one 34 = .ok (.invokevirtual 142, 3) := by decide +kernel
theorem dX7_one_37 : decode cX7_one 37 = .ok (.istore_n 3, 1) := by decide +kernel
theorem dX7_one_38 : decode cX7_one 38 = .ok (.iload_n 3, 1) := by decide +kernel
theorem dX7_one_39 : decode cX7_one 39 = .ok (.i2l, 1) := by decide +kernel
theorem dX7_one_40 : decode cX7_one 40 = .ok (.ldc2_w 158, 3) := by decide +kernel
theorem dX7_one_43 : decode cX7_one 43 = .ok (.ldc2_w 160, 3) := by decide +kernel
theorem dX7_one_46 : decode cX7_one 46 = .ok (.invokestatic 63, 3) := by decide +kernel
theorem dX7_one_49 : decode cX7_one 49 = .ok (.ifCond .ne 5, 3) := by decide +kernel
theorem dX7_one_52 : decode cX7_one 52 = .ok (.iconst 0, 1) := by decide +kernel
theorem dX7_one_53 : decode cX7_one 53 = .ok (.ireturn, 1) := by decide +kernel
theorem dX7_one_54 : decode cX7_one 54 = .ok (.aload_n 0, 1) := by decide +kernel
theorem dX7_one_55 : decode cX7_one 55 = .ok (.getfield 57, 3) := by decide +kernel
theorem dX7_one_58 : decode cX7_one 58 = .ok (.iconst 4, 1) := by decide +kernel
theorem dX7_one_59 : decode cX7_one 59 = .ok (.aload_n 0, 1) := by decide +kernel
theorem dX7_one_60 : decode cX7_one 60 = .ok (.getfield 155, 3) := by decide +kernel
theorem dX7_one_63 : decode cX7_one 63 = .ok (.imul, 1) := by decide +kernel
theorem dX7_one_64 : decode cX7_one 64 = .ok (.iload_n 2, 1) := by decide +kernel
theorem dX7_one_65 : decode cX7_one 65 = .ok (.iadd, 1) := by decide +kernel
theorem dX7_one_66 : decode cX7_one 66 = .ok (.iload_n 3, 1) := by decide +kernel
theorem dX7_one_67 : decode cX7_one 67 = .ok (.bipush 97, 2) := by decide +kernel
theorem dX7_one_69 : decode cX7_one 69 = .ok (.isub, 1) := by decide +kernel
theorem dX7_one_70 : decode cX7_one 70 = .ok (.iastore, 1) := by decide +kernel
theorem dX7_one_71 : decode cX7_one 71 = .ok (.iinc 2 1, 3) := by decide +kernel
theorem dX7_one_74 : decode cX7_one 74 = .ok (.goto (-46), 3) := by decide +kernel
theorem dX7_one_77 : decode cX7_one 77 = .ok (.aload_n 0, 1) := by decide +kernel
theorem dX7_one_78 : decode cX7_one 78 = .ok (.dup, 1) := by decide +kernel
theorem dX7_one_79 : decode cX7_one 79 = .ok (.getfield 155, 3) := by decide +kernel
theorem dX7_one_82 : decode cX7_one 82 = .ok (.iconst 1, 1) := by decide +kernel
theorem dX7_one_83 : decode cX7_one 83 = .ok (.iadd, 1) := by decide +kernel
theorem dX7_one_84 : decode cX7_one 84 = .ok (.putfield 155, 3) := by decide +kernel
theorem dX7_one_87 : decode cX7_one 87 = .ok (.iconst 1, 1) := by decide +kernel
theorem dX7_one_88 : decode cX7_one 88 = .ok (.ireturn, 1) := by decide +kernel
theorem dX7_keys_0 : decode cX7_keys 0 = .ok (.iconst 0, 1) := by decide +kernel
theorem dX7_keys_1 : decode cX7_keys 1 = .ok (.istore_n 1, 1) := by decide +kernel
theorem dX7_keys_2 : decode cX7_keys 2 = .ok (.iload_n 1, 1) := by decide +kernel
theorem dX7_keys_3 : decode cX7_keys 3 = .ok (.iconst 4, 1) := by decide +kernel
theorem dX7_keys_4 : decode cX7_keys 4 = .ok (.if_icmp .ge 65, 3) := by decide +kernel
theorem dX7_keys_7 : decode cX7_keys 7 = .ok (.aload_n 0, 1) := by decide +kernel
theorem dX7_keys_8 : decode cX7_keys 8 = .ok (.invokevirtual 142, 3) := by decide +kernel
theorem dX7_keys_11 : decode cX7_keys 11 = .ok (.istore_n 2, 1) := by decide +kernel
theorem dX7_keys_12 : decode cX7_keys 12 = .ok (.iload_n 2, 1) := by decide +kernel
theorem dX7_keys_13 : decode cX7_keys 13 = .ok (.bipush 45, 2) := by decide +kernel
theorem dX7_keys_15 : decode cX7_keys 15 = .ok (.if_icmp .eq 24, 3) := by decide +kernel
theorem dX7_keys_18 : decode cX7_keys 18 = .ok (.iload_n 2, 1) := by decide +kernel
theorem dX7_keys_19 : decode cX7_keys 19 = .ok (.i2l, 1) := by decide +kernel
theorem dX7_keys_20 : decode cX7_keys 20 = .ok (.ldc2_w 138, 3) := by decide +kernel
theorem dX7_keys_23 : decode cX7_keys 23 = .ok (.bipush 47, 2) := by decide +kernel
theorem dX7_keys_25 : decode cX7_keys 25 = .ok (.aload_n 0, 1) := by decide +kernel
theorem dX7_keys_26 : decode cX7_keys 26 = .ok (.getfield 155, 3) := by decide +kernel
theorem dX7_keys_29 : decode cX7_keys 29 = .ok (.iadd, 1) := by decide +kernel
theorem dX7_keys_30 : decode cX7_keys 30 = .ok (.i2l, 1) := by decide +kernel
theorem dX7_keys_31 : decode cX7_keys 31 = .ok (.invokestatic 63, 3) := by decide +kernel
theorem dX7_keys_34 : decode cX7_keys 34 = .ok (.ifCond .ne 5, 3) := by decide +kernel
theorem dX7_keys_37 : decode cX7_keys 37 = .ok (.iconst 0, 1) := by decide +kernel
theorem dX7_keys_38 : decode cX7_keys 38 = .ok (.ireturn, 1) := by decide +kernel
theorem dX7_keys_39 : decode cX7_keys 39 = .ok (.aload_n 0, 1) := by decide +kernel
theorem dX7_keys_40 : decode cX7_keys 40 = .ok (.getfield 57, 3) := by decide +kernel
theorem dX7_keys_43 : decode cX7_keys 43 = .ok (.bipush 20, 2) := by decide +kernel
theorem dX7_keys_45 : decode cX7_keys 45 = .ok (.iload_n 1, 1) := by decide +kernel
theorem dX7_keys_46 : decode cX7_keys 46 = .ok (.iadd, 1) := by decide +kernel
theorem dX7_keys_47 : decode cX7_keys 47 = .ok (.iload_n 2, 1) := by decide +kernel
theorem dX7_keys_48 : decode cX7_keys 48 = .ok (.bipush 45, 2) := by decide +kernel
theorem dX7_keys_50 : decode cX7_keys 50 = .ok (.if_icmp .ne 8, 3) := by decide +kernel
theorem dX7_keys_53 : decode cX7_keys 53 = .ok (.bipush (-4), 2) := by decide +kernel
theorem dX7_keys_55 : decode cX7_keys 55 = .ok (.goto 7, 3) := by decide +kernel
theorem dX7_keys_58 : decode cX7_keys 58 = .ok (.iload_n 2, 1) := by decide +kernel
theorem dX7_keys_59 : decode cX7_keys 59 = .ok (.bipush 48, 2) := by decide +kernel
theorem dX7_keys_61 : decode cX7_keys 61 = .ok (.isub, 1) := by decide +kernel
theorem dX7_keys_62 : decode cX7_keys 62 = .ok (.iastore, 1) := by decide +kernel
theorem dX7_keys_63 : decode cX7_keys 63 = .ok (.iinc 1 1, 3) := by decide +kernel
theorem dX7_keys_66 : decode cX7_keys 66 = .ok (.goto (-64), 3) := by decide +kernel
theorem dX7_keys_69 : decode cX7_keys 69 = .ok (.aload_n 0, 1) := by decide +kernel
theorem dX7_keys_70 : decode cX7_keys 70 = .ok (.invokevirtual 142, 3) := by decide +kernel
theorem dX7_keys_73 : decode cX7_keys 73 = .ok (.ifCond .ne 7, 3) := by decide +kernel
theorem dX7_keys_76 : decode cX7_keys 76 = .ok (.iconst 1, 1) := by decide +kernel
theorem dX7_keys_77 : decode cX7_keys 77 = .ok (.goto 4, 3) := by decide +kernel
theorem dX7_keys_80 : decode cX7_keys 80 = .ok (.iconst 0, 1) := by decide +kernel
theorem dX7_keys_81 : decode cX7_keys 81 = .ok (.ireturn, 1) := by decide +kernel
theorem dX7_isCollege_0 : decode cX7_isCollege 0 = .ok (.aload_n 0, 1) := by decide +kernel
theorem dX7_isCollege_1 : decode cX7_isCollege 1 = .ok (.iconst 0, 1) := by decide +kernel
theorem dX7_isCollege_2 : decode cX7_isCollege 2 = .ok (.putfield 155, 3) := by decide +kernel
theorem dX7_isCollege_5 : decode cX7_isCollege 5 = .ok (.aload_n 0, 1) := by decide +kernel
theorem dX7_isCollege_6 : decode cX7_isCollege 6 = .ok (.iconst 0, 1) := by decide +kernel
theorem dX7_isCollege_7 : decode cX7_isCollege 7 = .ok (.putfield 132, 3) := by decide +kernel
theorem dX7_isCollege_10 : decode cX7_isCollege 10 = .ok (.aload_n 0, 1) := by decide +kernel
theorem dX7_isCollege_11 : decode cX7_isCollege 11 = .ok (.invokevirtual 162, 3) := by decide +kernel
theorem dX7_isCollege_14 : decode cX7_isCollege 14 = .ok (.ifCond .ne 5, 3) := by decide +kernel
theorem dX7_isCollege_17 : decode cX7_isCollege 17 = .ok (.iconst 0, 1) := by decide +kernel
theorem dX7_isCollege_18 : decode cX7_isCollege 18 = .ok (.ireturn, 1) := by decide +kernel
theorem dX7_isCollege_19 : decode cX7_isCollege 19 = .ok (.aload_n 0, 1) := by decide +kernel
theorem dX7_isCollege_20 : decode cX7_isCollege 20 = .ok (.invokevirtual 142, 3) := by decide +kernel
theorem dX7_isCollege_23 : decode cX7_isCollege 23 = .ok (.istore_n 1, 1) := by decide +kernel
theorem dX7_isCollege_24 : decode cX7_isCollege 24 = .ok (.iload_n 1, 1) := by decide +kernel
theorem dX7_isCollege_25 : decode cX7_isCollege 25 = .ok (.bipush 47, 2) := by decide +kernel
theorem dX7_isCollege_27 : decode cX7_isCollege 27 = .ok (.if_icmp .ne 28, 3) := by decide +kernel
theorem dX7_isCollege_30 : decode cX7_isCollege 30 = .ok (.aload_n 0, 1) := by decide +kernel
theorem dX7_isCollege_31 : decode cX7_isCollege 31 = .ok (.getfield 155, 3) := by decide +kernel
theorem dX7_isCollege_34 : decode cX7_isCollege 34 = .ok (.iconst 5, 1) := by decide +kernel
theorem dX7_isCollege_35 : decode cX7_isCollege 35 = .ok (.if_icmp .ge 20, 3) := by decide +kernel
theorem dX7_isCollege_38 : decode cX7_isCollege 38 = .ok (.aload_n 0, 1) := by decide +kernel
theorem dX7_isCollege_39 : decode cX7_isCollege 39 = .ok (.invokevirtual 166, 3) := by decide +kernel
theorem dX7_isCollege_42 : decode cX7_isCollege 42 = .ok (.ifCond .ne 5, 3) := by decide +kernel
theorem dX7_isCollege_45 : decode cX7_isCollege 45 = .ok (.iconst 0, 1) := by decide +kernel
theorem dX7_isCollege_46 : decode cX7_isCollege 46 = .ok (.ireturn, 1) := by decide +kernel
theorem dX7_isCollege_47 : decode cX7_isCollege 47 = .ok (.aload_n 0, 1) := by decide +kernel
theorem dX7_isCollege_48 : decode cX7_isCollege 48 = .ok (.invokevirtual 142, 3) := by decide +kernel
theorem dX7_isCollege_51 : decode cX7_isCollege 51 = .ok (.istore_n 1, 1) := by decide +kernel
theorem dX7_isCollege_52 : decode cX7_isCollege 52 = .ok (.goto (-28), 3) := by decide +kernel
theorem dX7_isCollege_55 : decode cX7_isCollege 55 = .ok (.iload_n 1, 1) := by decide +kernel
theorem dX7_isCollege_56 : decode cX7_isCollege 56 = .ok (.bipush 59, 2) := by decide +kernel
theorem dX7_isCollege_58 : decode cX7_isCollege 58 = .ok (.if_icmp .ne 21, 3) := by decide +kernel
theorem dX7_isCollege_61 : decode cX7_isCollege 61 = .ok (.aload_n 0, 1) := by decide +kernel
theorem dX7_isCollege_62 : decode cX7_isCollege 62 = .ok (.getfield 155, 3) := by decide +kernel
theorem dX7_isCollege_65 : decode cX7_isCollege 65 = .ok (.ifCond .le 14, 3) := by decide +kernel
theorem dX7_isCollege_68 : decode cX7_isCollege 68 = .ok (.aload_n 0, 1) := by decide +kernel
theorem dX7_isCollege_69 : decode cX7_isCollege 69 = .ok (.invokevirtual 169, 3) := by decide +kernel
theorem dX7_isCollege_72 : decode cX7_isCollege 72 = .ok (.ifCond .eq 7, 3) := by decide +kernel
theorem dX7_isCollege_75 : decode cX7_isCollege 75 = .ok (.iconst 1, 1) := by decide +kernel
theorem dX7_isCollege_76 : decode cX7_isCollege 76 = .ok (.goto 4, 3) := by decide +kernel
theorem dX7_isCollege_79 : decode cX7_isCollege 79 = .ok (.iconst 0, 1) := by decide +kernel
theorem dX7_isCollege_80 : decode cX7_isCollege 80 = .ok (.ireturn, 1) := by decide +kernel
theorem dX7_college_0 : decode cX7_college 0 = .ok (.aload_n 0, 1) := by decide +kernel
theorem dX7_college_1 : decode cX7_college 1 = .ok (.invokevirtual 172, 3) := by decide +kernel
theorem dX7_college_4 : decode cX7_college 4 = .ok (.istore_n 1, 1) := by decide +kernel
theorem dX7_college_5 : decode cX7_college 5 = .ok (.aload_n 0, 1) := by decide +kernel
theorem dX7_college_6 : decode cX7_college 6 = .ok (.getfield 135, 3) := by decide +kernel
theorem dX7_college_9 : decode cX7_college 9 = .ok (.aload_n 0, 1) := by decide +kernel
theorem dX7_college_10 : decode cX7_college 10 = .ok (.getfield 129, 3) := by decide +kernel
theorem dX7_college_13 : decode cX7_college 13 = .ok (.if_icmp .ge 10, 3) := by decide +kernel
theorem dX7_college_16 : decode cX7_college 16 = .ok (.aload_n 0, 1) := by decide +kernel
theorem dX7_college_17 : decode cX7_college 17 = .ok (.getfield 135, 3) := by decide +kernel
theorem dX7_college_20 : decode cX7_college 20 = .ok (.goto 7, 3) := by decide +kernel
theorem dX7_college_23 : decode cX7_college 23 = .ok (.aload_n 0, 1) := by decide +kernel
theorem dX7_college_24 : decode cX7_college 24 = .ok (.getfield 129, 3) := by decide +kernel
theorem dX7_college_27 : decode cX7_college 27 = .ok (.istore_n 2, 1) := by decide +kernel
theorem dX7_college_28 : decode cX7_college 28 = .ok (.aload_n 0, 1) := by decide +kernel
theorem dX7_college_29 : decode cX7_college 29 = .ok (.iconst 0, 1) := by decide +kernel
theorem dX7_college_30 : decode cX7_college 30 = .ok (.putfield 129, 3) := by decide +kernel
theorem dX7_college_33 : decode cX7_college 33 = .ok (.iload_n 1, 1) := by decide +kernel
theorem dX7_college_34 : decode cX7_college 34 = .ok (.ifCond .ne 8, 3) := by decide +kernel
theorem dX7_college_37 : decode cX7_college 37 = .ok (.bipush (-20), 2) := by decide +kernel
theorem dX7_college_39 : decode cX7_college 39 = .ok (.iload_n 2, 1) := by decide +kernel
theorem dX7_college_40 : decode cX7_college 40 = .ok (.isub, 1) := by decide +kernel
theorem dX7_college_41 : decode cX7_college 41 = .ok (.ireturn, 1) := by decide +kernel
theorem dX7_college_42 : decode cX7_college 42 = .ok (.aload_n 0, 1) := by decide +kernel
theorem dX7_college_43 : decode cX7_college 43 = .ok (.aload_n 0, 1) := by decide +kernel
theorem dX7_college_44 : decode cX7_college 44 = .ok (.getfield 149, 3) := by decide +kernel
theorem dX7_college_47 : decode cX7_college 47 = .ok (.putfield 7, 3) := by decide +kernel
theorem dX7_college_50 : decode cX7_college 50 = .ok (.aload_n 0, 1) := by decide +kernel
theorem dX7_college_51 : decode cX7_college 51 = .ok (.aload_n 0, 1) := by decide +kernel
theorem dX7_college_52 : decode cX7_college 52 = .ok (.getfield 155, 3) := by decide +kernel
theorem dX7_college_55 : decode cX7_college 55 = .ok (.putfield 60, 3) := by decide +kernel
theorem dX7_college_58 : decode cX7_college 58 = .ok (.iconst 0, 1) := by decide +kernel
theorem dX7_college_59 : decode cX7_college 59 = .ok (.istore_n 3, 1) := by decide +kernel
theorem dX7_college_60 : decode cX7_college 60 = .ok (.iload_n 3, 1) := by decide +kernel
theorem dX7_college_61 : decode cX7_college 61 = .ok (.bipush 24, 2) := by decide +kernel
theorem dX7_college_63 : decode cX7_college 63 = .ok (.if_icmp .ge 41, 3) := by decide +kernel
theorem dX7_college_66 : decode cX7_college 66 = .ok (.aload_n 0, 1) := by decide +kernel
theorem dX7_college_67 : decode cX7_college 67 = .ok (.getfield 17, 3) := by decide +kernel
theorem dX7_college_70 : decode cX7_college 70 = .ok (.iload_n 3, 1) := by decide +kernel
theorem dX7_college_71 : decode cX7_college 71 = .ok (.iload_n 3, 1) := by decide +kernel
theorem dX7_college_72 : decode cX7_college 72 = .ok (.iconst 4, 1) := by decide +kernel
theorem dX7_college_73 : decode cX7_college 73 = .ok (.aload_n 0, 1) := by decide +kernel
theorem dX7_college_74 : decode cX7_college 74 = .ok (.getfield 60, 3) := by decide +kernel
theorem dX7_college_77 : decode cX7_college 77 = .ok (.imul, 1) := by decide +kernel
theorem dX7_college_78 : decode cX7_college 78 = .ok (.if_icmp .lt 13, 3) := by decide +kernel
theorem dX7_college_81 : decode cX7_college 81 = .ok (.iload_n 3, 1) := by decide +kernel
theorem dX7_college_82 : decode cX7_college 82 = .ok (.bipush 20, 2) := by decide +kernel
theorem dX7_college_84 : decode cX7_college 84 = .ok (.if_icmp .ge 7, 3) := by decide +kernel
theorem dX7_college_87 : decode cX7_college 87 = .ok (.iconst 0, 1) := by decide +kernel
theorem dX7_college_88 : decode cX7_college 88 = .ok (.goto 9, 3) := by decide +kernel
theorem dX7_college_91 : decode cX7_college 91 = .ok (.aload_n 0, 1) := by decide +kernel
theorem dX7_college_92 : decode cX7_college 92 = .ok (.getfield 57, 3) := by decide +kernel
theorem dX7_college_95 : decode cX7_college 95 = .ok (.iload_n 3, 1) := by decide +kernel
theorem dX7_college_96 : decode cX7_college 96 = .ok (.iaload, 1) := by decide +kernel
theorem dX7_college_97 : decode cX7_college 97 = .ok (.iastore, 1) := by decide +kernel
theorem dX7_college_98 : decode cX7_college 98 = .ok (.iinc 3 1, 3) := by decide +kernel
theorem dX7_college_101 : decode cX7_college 101 = .ok (.goto (-41), 3) := by decide +kernel
theorem dX7_college_104 : decode cX7_college 104 = .ok (.iconst 0, 1) := by decide +kernel
theorem dX7_college_105 : decode cX7_college 105 = .ok (.istore_n 3, 1) := by decide +kernel
theorem dX7_college_106 : decode cX7_college 106 = .ok (.iload_n 3, 1) := by decide +kernel
theorem dX7_college_107 : decode cX7_college 107 = .ok (.aload_n 0, 1) := by decide +kernel
theorem dX7_college_108 : decode cX7_college 108 = .ok (.getfield 60, 3) := by decide +kernel
theorem dX7_college_111 : decode cX7_college 111 = .ok (.if_icmp .ge 21, 3) := by decide +kernel
theorem dX7_college_114 : decode cX7_college 114 = .ok (.aload_n 0, 1) := by decide +kernel
theorem dX7_college_115 : decode cX7_college 115 = .ok (.getfield 13, 3) := by decide +kernel
theorem dX7_college_118 : decode cX7_college 118 = .ok (.iload_n 3, 1) := by decide +kernel
theorem dX7_college_119 : decode cX7_college 119 = .ok (.aload_n 0, 1) := by decide +kernel
theorem dX7_college_120 : decode cX7_college 120 = .ok (.getfield 54, 3) := by decide +kernel
theorem dX7_college_123 : decode cX7_college 123 = .ok (.iload_n 3, 1) := by decide +kernel
theorem dX7_college_124 : decode cX7_college 124 = .ok (.iaload, 1) := by decide +kernel
theorem dX7_college_125 : decode cX7_college 125 = .ok (.iastore, 1) := by decide +kernel
theorem dX7_college_126 : decode cX7_college 126 = .ok (.iinc 3 1, 3) := by decide +kernel
theorem dX7_college_129 : decode cX7_college 129 = .ok (.goto (-23), 3) := by decide +kernel
theorem dX7_college_132 : decode cX7_college 132 = .ok (.aload_n 0, 1) := by decide +kernel
theorem dX7_college_133 : decode cX7_college 133 = .ok (.getfield 17, 3) := by decide +kernel
theorem dX7_college_136 : decode cX7_college 136 = .ok (.bipush 24, 2) := by decide +kernel
theorem dX7_college_138 : decode cX7_college 138 = .ok (.iconst 0, 1) := by decide +kernel
theorem dX7_college_139 : decode cX7_college 139 = .ok (.iastore, 1) := by decide +kernel
theorem dX7_college_140 : decode cX7_college 140 = .ok (.aload_n 0, 1) := by decide +kernel
theorem dX7_college_141 : decode cX7_college 141 = .ok (.getfield 17, 3) := by decide +kernel
theorem dX7_college_144 : decode cX7_college 144 = .ok (.bipush 25, 2) := by decide +kernel
theorem dX7_college_146 : decode cX7_college 146 = .ok (.iconst 0, 1) := by decide +kernel
theorem dX7_college_147 : decode cX7_college 147 = .ok (.iastore, 1) := by decide +kernel
theorem dX7_college_148 : decode cX7_college 148 = .ok (.aload_n 0, 1) := by decide +kernel
theorem dX7_college_149 : decode cX7_college 149 = .ok (.iconst 0, 1) := by decide +kernel
theorem dX7_college_150 : decode cX7_college 150 = .ok (.putfield 104, 3) := by decide +kernel
theorem dX7_college_153 : decode cX7_college 153 = .ok (.aload_n 0, 1) := by decide +kernel
theorem dX7_college_154 : decode cX7_college 154 = .ok (.getfield 60, 3) := by decide +kernel
theorem dX7_college_157 : decode cX7_college 157 = .ok (.ireturn, 1) := by decide +kernel
theorem dX7_nails_0 : decode cX7_nails 0 = .ok (.iconst 0, 1) := by decide +kernel
theorem dX7_nails_1 : decode cX7_nails 1 = .ok (.istore_n 1, 1) := by decide +kernel
theorem dX7_nails_2 : decode cX7_nails 2 = .ok (.iconst 0, 1) := by decide +kernel
theorem dX7_nails_3 : decode cX7_nails 3 = .ok (.istore_n 2, 1) := by decide +kernel
theorem dX7_nails_4 : decode cX7_nails 4 = .ok (.iload_n 2, 1) := by decide +kernel
theorem dX7_nails_5 : decode cX7_nails 5 = .ok (.iconst 4, 1) := by decide +kernel
theorem dX7_nails_6 : decode cX7_nails 6 = .ok (.if_icmp .ge 33, 3) := by decide +kernel
theorem dX7_nails_9 : decode cX7_nails 9 = .ok (.iload_n 1, 1) := by decide +kernel
theorem dX7_nails_10 : decode cX7_nails 10 = .ok (.aload_n 0, 1) := by decide +kernel
theorem dX7_nails_11 : decode cX7_nails 11 = .ok (.getfield 17, 3) := by decide +kernel
theorem dX7_nails_14 : decode cX7_nails 14 = .ok (.bipush 20, 2) := by decide +kernel
theorem dX7_nails_16 : decode cX7_nails 16 = .ok (.iload_n 2, 1) := by decide +kernel
theorem dX7_nails_17 : decode cX7_nails 17 = .ok (.iadd, 1) := by decide +kernel
theorem dX7_nails_18 : decode cX7_nails 18 = .ok (.iaload, 1) := by decide +kernel
theorem dX7_nails_19 : decode cX7_nails 19 = .ok (.bipush (-4), 2) := by decide +kernel
theorem dX7_nails_21 : decode cX7_nails 21 = .ok (.if_icmp .ne 9, 3) := by decide +kernel
theorem dX7_nails_24 : decode cX7_nails 24 = .ok (.iconst 1, 1) := by decide +kernel
theorem dX7_nails_25 : decode cX7_nails 25 = .ok (.iload_n 2, 1) := by decide +kernel
theorem dX7_nails_26 : decode cX7_nails 26 = .ok (.ishl, 1) := by decide +kernel
theorem dX7_nails_27 : decode cX7_nails 27 = .ok (.goto 4, 3) := by decide +kernel
theorem dX7_nails_30 : decode cX7_nails 30 = .ok (.iconst 0, 1) := by decide +kernel
theorem dX7_nails_31 : decode cX7_nails 31 = .ok (.ior, 1) := by decide +kernel
theorem dX7_nails_32 : decode cX7_nails 32 = .ok (.istore_n 1, 1) := by decide +kernel
theorem dX7_nails_33 : decode cX7_nails 33 = .ok (.iinc 2 1, 3) := by decide +kernel
theorem dX7_nails_36 : decode cX7_nails 36 = .ok (.goto (-32), 3) := by decide +kernel
theorem dX7_nails_39 : decode cX7_nails 39 = .ok (.iload_n 1, 1) := by decide +kernel
theorem dX7_nails_40 : decode cX7_nails 40 = .ok (.ireturn, 1) := by decide +kernel
theorem dX7_keepers_0 : decode cX7_keepers 0 = .ok (.iconst 0, 1) := by decide +kernel
theorem dX7_keepers_1 : decode cX7_keepers 1 = .ok (.istore_n 1, 1) := by decide +kernel
theorem dX7_keepers_2 : decode cX7_keepers 2 = .ok (.iconst 0, 1) := by decide +kernel
theorem dX7_keepers_3 : decode cX7_keepers 3 = .ok (.istore_n 2, 1) := by decide +kernel
theorem dX7_keepers_4 : decode cX7_keepers 4 = .ok (.iload_n 2, 1) := by decide +kernel
theorem dX7_keepers_5 : decode cX7_keepers 5 = .ok (.iconst 4, 1) := by decide +kernel
theorem dX7_keepers_6 : decode cX7_keepers 6 = .ok (.if_icmp .ge 41, 3) := by decide +kernel
theorem dX7_keepers_9 : decode cX7_keepers 9 = .ok (.iload_n 1, 1) := by decide +kernel
theorem dX7_keepers_10 : decode cX7_keepers 10 = .ok (.aload_n 0, 1) := by decide +kernel
theorem dX7_keepers_11 : decode cX7_keepers 11 = .ok (.getfield 17, 3) := by decide +kernel
theorem dX7_keepers_14 : decode cX7_keepers 14 = .ok (.bipush 20, 2) := by decide +kernel
theorem dX7_keepers_16 : decode cX7_keepers 16 = .ok (.iload_n 2, 1) := by decide +kernel
theorem dX7_keepers_17 : decode cX7_keepers 17 = .ok (.iadd, 1) := by decide +kernel
theorem dX7_keepers_18 : decode cX7_keepers 18 = .ok (.iaload, 1) := by decide +kernel
theorem dX7_keepers_19 : decode cX7_keepers 19 = .ok (.bipush (-4), 2) := by decide +kernel
theorem dX7_keepers_21 : decode cX7_keepers 21 = .ok (.if_icmp .ne 7, 3) := by decide +kernel
theorem dX7_keepers_24 : decode cX7_keepers 24 = .ok (.iconst 0, 1) := by decide +kernel
theorem dX7_keepers_25 : decode cX7_keepers 25 = .ok (.goto 14, 3) := by decide +kernel
theorem dX7_keepers_28 : decode cX7_keepers 28 = .ok (.iconst 1, 1) := by decide +kernel
theorem dX7_keepers_29 : decode cX7_keepers 29 = .ok (.aload_n 0, 1) := by decide +kernel
theorem dX7_keepers_30 : decode cX7_keepers 30 = .ok (.getfield 17, 3) := by decide +kernel
theorem dX7_keepers_33 : decode cX7_keepers 33 = .ok (.bipush 20, 2) := by decide +kernel
theorem dX7_keepers_35 : decode cX7_keepers 35 = .ok (.iload_n 2, 1) := by decide +kernel
theorem dX7_keepers_36 : decode cX7_keepers 36 = .ok (.iadd, 1) := by decide +kernel
theorem dX7_keepers_37 : decode cX7_keepers 37 = .ok (.iaload, 1) := by decide +kernel
theorem dX7_keepers_38 : decode cX7_keepers 38 = .ok (.ishl, 1) := by decide +kernel
theorem dX7_keepers_39 : decode cX7_keepers 39 = .ok (.ior, 1) := by decide +kernel
theorem dX7_keepers_40 : decode cX7_keepers 40 = .ok (.istore_n 1, 1) := by decide +kernel
theorem dX7_keepers_41 : decode cX7_keepers 41 = .ok (.iinc 2 1, 3) := by decide +kernel
theorem dX7_keepers_44 : decode cX7_keepers 44 = .ok (.goto (-40), 3) := by decide +kernel
theorem dX7_keepers_47 : decode cX7_keepers 47 = .ok (.iload_n 1, 1) := by decide +kernel
theorem dX7_keepers_48 : decode cX7_keepers 48 = .ok (.ireturn, 1) := by decide +kernel
theorem dX7_count_0 : decode cX7_count 0 = .ok (.iload_n 1, 1) := by decide +kernel
theorem dX7_count_1 : decode cX7_count 1 = .ok (.tableswitch 116 0 7 #[47, 52, 60, 65, 73, 78, 106, 111], 47) := by decide +kernel
theorem dX7_count_48 : decode cX7_count 48 = .ok (.aload_n 0, 1) := by decide +kernel
theorem dX7_count_49 : decode cX7_count 49 = .ok (.getfield 60, 3) := by decide +kernel
theorem dX7_count_52 : decode cX7_count 52 = .ok (.ireturn, 1) := by decide +kernel
theorem dX7_count_53 : decode cX7_count 53 = .ok (.aload_n 0, 1) := by decide +kernel
theorem dX7_count_54 : decode cX7_count 54 = .ok (.getfield 17, 3) := by decide +kernel
theorem dX7_count_57 : decode cX7_count 57 = .ok (.bipush 24, 2) := by decide +kernel
theorem dX7_count_59 : decode cX7_count 59 = .ok (.iaload, 1) := by decide +kernel
theorem dX7_count_60 : decode cX7_count 60 = .ok (.ireturn, 1) := by decide +kernel
theorem dX7_count_61 : decode cX7_count 61 = .ok (.aload_n 0, 1) := by decide +kernel
theorem dX7_count_62 : decode cX7_count 62 = .ok (.getfield 7, 3) := by decide +kernel
theorem dX7_count_65 : decode cX7_count 65 = .ok (.ireturn, 1) := by decide +kernel
theorem dX7_count_66 : decode cX7_count 66 = .ok (.aload_n 0, 1) := by decide +kernel
theorem dX7_count_67 : decode cX7_count 67 = .ok (.getfield 17, 3) := by decide +kernel
theorem dX7_count_70 : decode cX7_count 70 = .ok (.bipush 25, 2) := by decide +kernel
theorem dX7_count_72 : decode cX7_count 72 = .ok (.iaload, 1) := by decide +kernel
theorem dX7_count_73 : decode cX7_count 73 = .ok (.ireturn, 1) := by decide +kernel
theorem dX7_count_74 : decode cX7_count 74 = .ok (.aload_n 0, 1) := by decide +kernel
theorem dX7_count_75 : decode cX7_count 75 = .ok (.invokevirtual 175, 3) := by decide +kernel
theorem dX7_count_78 : decode cX7_count 78 = .ok (.ireturn, 1) := by decide +kernel
theorem dX7_count_79 : decode cX7_count 79 = .ok (.iconst 0, 1) := by decide +kernel
theorem dX7_count_80 : decode cX7_count 80 = .ok (.istore_n 2, 1) := by decide +kernel
theorem dX7_count_81 : decode cX7_count 81 = .ok (.iconst 0, 1) := by decide +kernel
theorem dX7_count_82 : decode cX7_count 82 = .ok (.istore_n 3, 1) := by decide +kernel
theorem dX7_count_83 : decode cX7_count 83 = .ok (.iload_n 3, 1) := by decide +kernel
theorem dX7_count_84 : decode cX7_count 84 = .ok (.aload_n 0, 1) := by decide +kernel
theorem dX7_count_85 : decode cX7_count 85 = .ok (.getfield 60, 3) := by decide +kernel
theorem dX7_count_88 : decode cX7_count 88 = .ok (.if_icmp .ge 17, 3) := by decide +kernel
theorem dX7_count_91 : decode cX7_count 91 = .ok (.iload_n 2, 1) := by decide +kernel
theorem dX7_count_92 : decode cX7_count 92 = .ok (.aload_n 0, 1) := by decide +kernel
theorem dX7_count_93 : decode cX7_count 93 = .ok (.iload_n 3, 1) := by decide +kernel
theorem dX7_count_94 : decode cX7_count 94 = .ok (.invokevirtual 119, 3) := by decide +kernel
theorem dX7_count_97 : decode cX7_count 97 = .ok (.iadd, 1) := by decide +kernel
theorem dX7_count_98 : decode cX7_count 98 = .ok (.istore_n 2, 1) := by decide +kernel
theorem dX7_count_99 : decode cX7_count 99 = .ok (.iinc 3 1, 3) := by decide +kernel
theorem dX7_count_102 : decode cX7_count 102 = .ok (.goto (-19), 3) := by decide +kernel
theorem dX7_count_105 : decode cX7_count 105 = .ok (.iload_n 2, 1) := by decide +kernel
theorem dX7_count_106 : decode cX7_count 106 = .ok (.ireturn, 1) := by decide +kernel
theorem dX7_count_107 : decode cX7_count 107 = .ok (.aload_n 0, 1) := by decide +kernel
theorem dX7_count_108 : decode cX7_count 108 = .ok (.invokevirtual 178, 3) := by decide +kernel
theorem dX7_count_111 : decode cX7_count 111 = .ok (.ireturn, 1) := by decide +kernel
theorem dX7_count_112 : decode cX7_count 112 = .ok (.aload_n 0, 1) := by decide +kernel
theorem dX7_count_113 : decode cX7_count 113 = .ok (.getfield 104, 3) := by decide +kernel
theorem dX7_count_116 : decode cX7_count 116 = .ok (.ireturn, 1) := by decide +kernel
theorem dX7_count_117 : decode cX7_count 117 = .ok (.iconst (-1), 1) := by decide +kernel
theorem dX7_count_118 : decode cX7_count 118 = .ok (.ireturn, 1) := by decide +kernel
theorem dX7_note_0 : decode cX7_note 0 = .ok (.aload_n 0, 1) := by decide +kernel
theorem dX7_note_1 : decode cX7_note 1 = .ok (.getfield 104, 3) := by decide +kernel
theorem dX7_note_4 : decode cX7_note 4 = .ok (.bipush 8, 2) := by decide +kernel
theorem dX7_note_6 : decode cX7_note 6 = .ok (.if_icmp .ne 43, 3) := by decide +kernel
theorem dX7_note_9 : decode cX7_note 9 = .ok (.iconst 0, 1) := by decide +kernel
theorem dX7_note_10 : decode cX7_note 10 = .ok (.istore_n 1, 1) := by decide +kernel
theorem dX7_note_11 : decode cX7_note 11 = .ok (.iload_n 1, 1) := by decide +kernel
theorem dX7_note_12 : decode cX7_note 12 = .ok (.sipush 189, 3) := by decide +kernel
theorem dX7_note_15 : decode cX7_note 15 = .ok (.if_icmp .ge 24, 3) := by decide +kernel
theorem dX7_note_18 : decode cX7_note 18 = .ok (.aload_n 0, 1) := by decide +kernel
theorem dX7_note_19 : decode cX7_note 19 = .ok (.getfield 23, 3) := by decide +kernel
theorem dX7_note_22 : decode cX7_note 22 = .ok (.iload_n 1, 1) := by decide +kernel
theorem dX7_note_23 : decode cX7_note 23 = .ok (.aload_n 0, 1) := by decide +kernel
theorem dX7_note_24 : decode cX7_note 24 = .ok (.getfield 23, 3) := by decide +kernel
theorem dX7_note_27 : decode cX7_note 27 = .ok (.bipush 27, 2) := by decide +kernel
theorem dX7_note_29 : decode cX7_note 29 = .ok (.iload_n 1, 1) := by decide +kernel
theorem dX7_note_30 : decode cX7_note 30 = .ok (.iadd, 1) := by decide +kernel
theorem dX7_note_31 : decode cX7_note 31 = .ok (.iaload, 1) := by decide +kernel
theorem dX7_note_32 : decode cX7_note 32 = .ok (.iastore, 1) := by decide +kernel
theorem dX7_note_33 : decode cX7_note 33 = .ok (.iinc 1 1, 3) := by decide +kernel
theorem dX7_note_36 : decode cX7_note 36 = .ok (.goto (-25), 3) := by decide +kernel
theorem dX7_note_39 : decode cX7_note 39 = .ok (.aload_n 0, 1) := by decide +kernel
theorem dX7_note_40 : decode cX7_note 40 = .ok (.dup, 1) := by decide +kernel
theorem dX7_note_41 : decode cX7_note 41 = .ok (.getfield 104, 3) := by decide +kernel
theorem dX7_note_44 : decode cX7_note 44 = .ok (.iconst 1, 1) := by decide +kernel
theorem dX7_note_45 : decode cX7_note 45 = .ok (.isub, 1) := by decide +kernel
theorem dX7_note_46 : decode cX7_note 46 = .ok (.putfield 104, 3) := by decide +kernel
theorem dX7_note_49 : decode cX7_note 49 = .ok (.iconst 0, 1) := by decide +kernel
theorem dX7_note_50 : decode cX7_note 50 = .ok (.istore_n 1, 1) := by decide +kernel
theorem dX7_note_51 : decode cX7_note 51 = .ok (.iload_n 1, 1) := by decide +kernel
theorem dX7_note_52 : decode cX7_note 52 = .ok (.bipush 27, 2) := by decide +kernel
theorem dX7_note_54 : decode cX7_note 54 = .ok (.if_icmp .ge 29, 3) := by decide +kernel
theorem dX7_note_57 : decode cX7_note 57 = .ok (.aload_n 0, 1) := by decide +kernel
theorem dX7_note_58 : decode cX7_note 58 = .ok (.getfield 23, 3) := by decide +kernel
theorem dX7_note_61 : decode cX7_note 61 = .ok (.bipush 27, 2) := by decide +kernel
theorem dX7_note_63 : decode cX7_note 63 = .ok (.aload_n 0, 1) := by decide +kernel
theorem dX7_note_64 : decode cX7_note 64 = .ok (.getfield 104, 3) := by decide +kernel
theorem dX7_note_67 : decode cX7_note 67 = .ok (.imul, 1) := by decide +kernel
theorem dX7_note_68 : decode cX7_note 68 = .ok (.iload_n 1, 1) := by decide +kernel
theorem dX7_note_69 : decode cX7_note 69 = .ok (.iadd, 1) := by decide +kernel
theorem dX7_note_70 : decode cX7_note 70 = .ok (.aload_n 0, 1) := by decide +kernel
theorem dX7_note_71 : decode cX7_note 71 = .ok (.getfield 17, 3) := by decide +kernel
theorem dX7_note_74 : decode cX7_note 74 = .ok (.iload_n 1, 1) := by decide +kernel
theorem dX7_note_75 : decode cX7_note 75 = .ok (.iaload, 1) := by decide +kernel
theorem dX7_note_76 : decode cX7_note 76 = .ok (.iastore, 1) := by decide +kernel
theorem dX7_note_77 : decode cX7_note 77 = .ok (.iinc 1 1, 3) := by decide +kernel
theorem dX7_note_80 : decode cX7_note 80 = .ok (.goto (-29), 3) := by decide +kernel
theorem dX7_note_83 : decode cX7_note 83 = .ok (.aload_n 0, 1) := by decide +kernel
theorem dX7_note_84 : decode cX7_note 84 = .ok (.dup, 1) := by decide +kernel
theorem dX7_note_85 : decode cX7_note 85 = .ok (.getfield 104, 3) := by decide +kernel
theorem dX7_note_88 : decode cX7_note 88 = .ok (.iconst 1, 1) := by decide +kernel
theorem dX7_note_89 : decode cX7_note 89 = .ok (.iadd, 1) := by decide +kernel
theorem dX7_note_90 : decode cX7_note 90 = .ok (.putfield 104, 3) := by decide +kernel
theorem dX7_note_93 : decode cX7_note 93 = .ok (.return_, 1) := by decide +kernel
theorem dX7_days_0 : decode cX7_days 0 = .ok (.iload_n 1, 1) := by decide +kernel
theorem dX7_days_1 : decode cX7_days 1 = .ok (.i2l, 1) := by decide +kernel
theorem dX7_days_2 : decode cX7_days 2 = .ok (.lconst 1, 1) := by decide +kernel
theorem dX7_days_3 : decode cX7_days 3 = .ok (.ldc2_w 181, 3) := by decide +kernel
theorem dX7_days_6 : decode cX7_days 6 = .ok (.invokestatic 63, 3) := by decide +kernel
theorem dX7_days_9 : decode cX7_days 9 = .ok (.ifCond .ne 5, 3) := by decide +kernel
theorem dX7_days_12 : decode cX7_days 12 = .ok (.iconst (-1), 1) := by decide +kernel
theorem dX7_days_13 : decode cX7_days 13 = .ok (.ireturn, 1) := by decide +kernel
theorem dX7_days_14 : decode cX7_days 14 = .ok (.aload_n 0, 1) := by decide +kernel
theorem dX7_days_15 : decode cX7_days 15 = .ok (.getfield 17, 3) := by decide +kernel
theorem dX7_days_18 : decode cX7_days 18 = .ok (.bipush 24, 2) := by decide +kernel
theorem dX7_days_20 : decode cX7_days 20 = .ok (.iaload, 1) := by decide +kernel
theorem dX7_days_21 : decode cX7_days 21 = .ok (.iload_n 1, 1) := by decide +kernel
theorem dX7_days_22 : decode cX7_days 22 = .ok (.iadd, 1) := by decide +kernel
theorem dX7_days_23 : decode cX7_days 23 = .ok (.sipush 9999, 3) := by decide +kernel
theorem dX7_days_26 : decode cX7_days 26 = .ok (.if_icmp .le 6, 3) := by decide +kernel
theorem dX7_days_29 : decode cX7_days 29 = .ok (.bipush (-3), 2) := by decide +kernel
theorem dX7_days_31 : decode cX7_days 31 = .ok (.ireturn, 1) := by decide +kernel
theorem dX7_days_32 : decode cX7_days 32 = .ok (.aload_n 0, 1) := by decide +kernel
theorem dX7_days_33 : decode cX7_days 33 = .ok (.getfield 17, 3) := by decide +kernel
theorem dX7_days_36 : decode cX7_days 36 = .ok (.bipush 25, 2) := by decide +kernel
theorem dX7_days_38 : decode cX7_days 38 = .ok (.iaload, 1) := by decide +kernel
theorem dX7_days_39 : decode cX7_days 39 = .ok (.istore_n 2, 1) := by decide +kernel
theorem dX7_days_40 : decode cX7_days 40 = .ok (.iconst 0, 1) := by decide +kernel
theorem dX7_days_41 : decode cX7_days 41 = .ok (.istore_n 3, 1) := by decide +kernel
theorem dX7_days_42 : decode cX7_days 42 = .ok (.iload_n 3, 1) := by decide +kernel
theorem dX7_days_43 : decode cX7_days 43 = .ok (.iload_n 1, 1) := by decide +kernel
theorem dX7_days_44 : decode cX7_days 44 = .ok (.if_icmp .ge 25, 3) := by decide +kernel
theorem dX7_days_47 : decode cX7_days 47 = .ok (.aload_n 0, 1) := by decide +kernel
theorem dX7_days_48 : decode cX7_days 48 = .ok (.invokevirtual 183, 3) := by decide +kernel
theorem dX7_days_51 : decode cX7_days 51 = .ok (.aload_n 0, 1) := by decide +kernel
theorem dX7_days_52 : decode cX7_days 52 = .ok (.invokevirtual 122, 3) := by decide +kernel
theorem dX7_days_55 : decode cX7_days 55 = .ok (.aload_n 0, 1) := by decide +kernel
theorem dX7_days_56 : decode cX7_days 56 = .ok (.invokevirtual 97, 3) := by decide +kernel
theorem dX7_days_59 : decode cX7_days 59 = .ok (.aload_n 0, 1) := by decide +kernel
theorem dX7_days_60 : decode cX7_days 60 = .ok (.invokevirtual 186, 3) := by decide +kernel
theorem dX7_days_63 : decode cX7_days 63 = .ok (.iinc 3 1, 3) := by decide +kernel
theorem dX7_days_66 : decode cX7_days 66 = .ok (.goto (-24), 3) := by decide +kernel
theorem dX7_days_69 : decode cX7_days 69 = .ok (.aload_n 0, 1) := by decide +kernel
theorem dX7_days_70 : decode cX7_days 70 = .ok (.getfield 17, 3) := by decide +kernel
theorem dX7_days_73 : decode cX7_days 73 = .ok (.bipush 25, 2) := by decide +kernel
theorem dX7_days_75 : decode cX7_days 75 = .ok (.iaload, 1) := by decide +kernel
theorem dX7_days_76 : decode cX7_days 76 = .ok (.iload_n 2, 1) := by decide +kernel
theorem dX7_days_77 : decode cX7_days 77 = .ok (.isub, 1) := by decide +kernel
theorem dX7_days_78 : decode cX7_days 78 = .ok (.ireturn, 1) := by decide +kernel
theorem dX7_talk_0 : decode cX7_talk 0 = .ok (.aload_n 0, 1) := by decide +kernel
theorem dX7_talk_1 : decode cX7_talk 1 = .ok (.iload_n 1, 1) := by decide +kernel
theorem dX7_talk_2 : decode cX7_talk 2 = .ok (.invokevirtual 107, 3) := by decide +kernel
theorem dX7_talk_5 : decode cX7_talk 5 = .ok (.ifCond .eq 22, 3) := by decide +kernel
theorem dX7_talk_8 : decode cX7_talk 8 = .ok (.iload_n 2, 1) := by decide +kernel
theorem dX7_talk_9 : decode cX7_talk 9 = .ok (.invokestatic 111, 3) := by decide +kernel
theorem dX7_talk_12 : decode cX7_talk 12 = .ok (.ifCond .eq 15, 3) := by decide +kernel
theorem dX7_talk_15 : decode cX7_talk 15 = .ok (.iload_n 3, 1) := by decide +kernel
theorem dX7_talk_16 : decode cX7_talk 16 = .ok (.i2l, 1) := by decide +kernel
theorem dX7_talk_17 : decode cX7_talk 17 = .ok (.lconst 1, 1) := by decide +kernel
theorem dX7_talk_18 : decode cX7_talk 18 = .ok (.ldc2_w 102, 3) := by decide +kernel
theorem dX7_talk_21 : decode cX7_talk 21 = .ok (.invokestatic 63, 3) := by decide +kernel
theorem dX7_talk_24 : decode cX7_talk 24 = .ok (.ifCond .ne 5, 3) := by decide +kernel
theorem dX7_talk_27 : decode cX7_talk 27 = .ok (.iconst (-1), 1) := by decide +kernel
theorem dX7_talk_28 : decode cX7_talk 28 = .ok (.ireturn, 1) := by decide +kernel
theorem dX7_talk_29 : decode cX7_talk 29 = .ok (.aload_n 0, 1) := by decide +kernel
theorem dX7_talk_30 : decode cX7_talk 30 = .ok (.getfield 17, 3) := by decide +kernel
theorem dX7_talk_33 : decode cX7_talk 33 = .ok (.iconst 4, 1) := by decide +kernel
theorem dX7_talk_34 : decode cX7_talk 34 = .ok (.iload_n 1, 1) := by decide +kernel
theorem dX7_talk_35 : decode cX7_talk 35 = .ok (.imul, 1) := by decide +kernel
theorem dX7_talk_36 : decode cX7_talk 36 = .ok (.iload_n 2, 1) := by decide +kernel
theorem dX7_talk_37 : decode cX7_talk 37 = .ok (.iadd, 1) := by decide +kernel
theorem dX7_talk_38 : decode cX7_talk 38 = .ok (.iaload, 1) := by decide +kernel
theorem dX7_talk_39 : decode cX7_talk 39 = .ok (.bipush 20, 2) := by decide +kernel
theorem dX7_talk_41 : decode cX7_talk 41 = .ok (.if_icmp .ne 6, 3) := by decide +kernel
theorem dX7_talk_44 : decode cX7_talk 44 = .ok (.bipush (-2), 2) := by decide +kernel
theorem dX7_talk_46 : decode cX7_talk 46 = .ok (.ireturn, 1) := by decide +kernel
theorem dX7_talk_47 : decode cX7_talk 47 = .ok (.aload_n 0, 1) := by decide +kernel
theorem dX7_talk_48 : decode cX7_talk 48 = .ok (.invokevirtual 183, 3) := by decide +kernel
theorem dX7_talk_51 : decode cX7_talk 51 = .ok (.aload_n 0, 1) := by decide +kernel
theorem dX7_talk_52 : decode cX7_talk 52 = .ok (.invokevirtual 122, 3) := by decide +kernel
theorem dX7_talk_55 : decode cX7_talk 55 = .ok (.aload_n 0, 1) := by decide +kernel
theorem dX7_talk_56 : decode cX7_talk 56 = .ok (.iload_n 1, 1) := by decide +kernel
theorem dX7_talk_57 : decode cX7_talk 57 = .ok (.iload_n 2, 1) := by decide +kernel
theorem dX7_talk_58 : decode cX7_talk 58 = .ok (.iload_n 3, 1) := by decide +kernel
theorem dX7_talk_59 : decode cX7_talk 59 = .ok (.invokevirtual 89, 3) := by decide +kernel
theorem dX7_talk_62 : decode cX7_talk 62 = .ok (.aload_n 0, 1) := by decide +kernel
theorem dX7_talk_63 : decode cX7_talk 63 = .ok (.invokevirtual 186, 3) := by decide +kernel
theorem dX7_talk_66 : decode cX7_talk 66 = .ok (.aload_n 0, 1) := by decide +kernel
theorem dX7_talk_67 : decode cX7_talk 67 = .ok (.getfield 17, 3) := by decide +kernel
theorem dX7_talk_70 : decode cX7_talk 70 = .ok (.iconst 4, 1) := by decide +kernel
theorem dX7_talk_71 : decode cX7_talk 71 = .ok (.iload_n 1, 1) := by decide +kernel
theorem dX7_talk_72 : decode cX7_talk 72 = .ok (.imul, 1) := by decide +kernel
theorem dX7_talk_73 : decode cX7_talk 73 = .ok (.iload_n 2, 1) := by decide +kernel
theorem dX7_talk_74 : decode cX7_talk 74 = .ok (.iadd, 1) := by decide +kernel
theorem dX7_talk_75 : decode cX7_talk 75 = .ok (.iaload, 1) := by decide +kernel
theorem dX7_talk_76 : decode cX7_talk 76 = .ok (.ireturn, 1) := by decide +kernel
theorem dX7_give_0 : decode cX7_give 0 = .ok (.iload_n 1, 1) := by decide +kernel
theorem dX7_give_1 : decode cX7_give 1 = .ok (.invokestatic 111, 3) := by decide +kernel
theorem dX7_give_4 : decode cX7_give 4 = .ok (.ifCond .eq 17, 3) := by decide +kernel
theorem dX7_give_7 : decode cX7_give 7 = .ok (.iload_n 2, 1) := by decide +kernel
theorem dX7_give_8 : decode cX7_give 8 = .ok (.bipush (-4), 2) := by decide +kernel
theorem dX7_give_10 : decode cX7_give 10 = .ok (.if_icmp .eq 13, 3) := by decide +kernel
theorem dX7_give_13 : decode cX7_give 13 = .ok (.aload_n 0, 1) := by decide +kernel
theorem dX7_give_14 : decode cX7_give 14 = .ok (.iload_n 2, 1) := by decide +kernel
theorem dX7_give_15 : decode cX7_give 15 = .ok (.invokevirtual 107, 3) := by decide +kernel
theorem dX7_give_18 : decode cX7_give 18 = .ok (.ifCond .ne 5, 3) := by decide +kernel
theorem dX7_give_21 : decode cX7_give 21 = .ok (.iconst (-1), 1) := by decide +kernel
theorem dX7_give_22 : decode cX7_give 22 = .ok (.ireturn, 1) := by decide +kernel
theorem dX7_give_23 : decode cX7_give 23 = .ok (.aload_n 0, 1) := by decide +kernel
theorem dX7_give_24 : decode cX7_give 24 = .ok (.getfield 17, 3) := by decide +kernel
theorem dX7_give_27 : decode cX7_give 27 = .ok (.bipush 20, 2) := by decide +kernel
theorem dX7_give_29 : decode cX7_give 29 = .ok (.iload_n 1, 1) := by decide +kernel
theorem dX7_give_30 : decode cX7_give 30 = .ok (.iadd, 1) := by decide +kernel
theorem dX7_give_31 : decode cX7_give 31 = .ok (.iaload, 1) := by decide +kernel
theorem dX7_give_32 : decode cX7_give 32 = .ok (.istore_n 3, 1) := by decide +kernel
theorem dX7_give_33 : decode cX7_give 33 = .ok (.iload_n 3, 1) := by decide +kernel
theorem dX7_give_34 : decode cX7_give 34 = .ok (.iload_n 2, 1) := by decide +kernel
theorem dX7_give_35 : decode cX7_give 35 = .ok (.if_icmp .ne 6, 3) := by decide +kernel
theorem dX7_give_38 : decode cX7_give 38 = .ok (.bipush (-2), 2) := by decide +kernel
theorem dX7_give_40 : decode cX7_give 40 = .ok (.ireturn, 1) := by decide +kernel
theorem dX7_give_41 : decode cX7_give 41 = .ok (.aload_n 0, 1) := by decide +kernel
theorem dX7_give_42 : decode cX7_give 42 = .ok (.invokevirtual 183, 3) := by decide +kernel
theorem dX7_give_45 : decode cX7_give 45 = .ok (.aload_n 0, 1) := by decide +kernel
theorem dX7_give_46 : decode cX7_give 46 = .ok (.getfield 17, 3) := by decide +kernel
theorem dX7_give_49 : decode cX7_give 49 = .ok (.bipush 20, 2) := by decide +kernel
theorem dX7_give_51 : decode cX7_give 51 = .ok (.iload_n 1, 1) := by decide +kernel
theorem dX7_give_52 : decode cX7_give 52 = .ok (.iadd, 1) := by decide +kernel
theorem dX7_give_53 : decode cX7_give 53 = .ok (.iload_n 2, 1) := by decide +kernel
theorem dX7_give_54 : decode cX7_give 54 = .ok (.iastore, 1) := by decide +kernel
theorem dX7_give_55 : decode cX7_give 55 = .ok (.iload_n 3, 1) := by decide +kernel
theorem dX7_give_56 : decode cX7_give 56 = .ok (.ireturn, 1) := by decide +kernel
theorem dX7_drift_0 : decode cX7_drift 0 = .ok (.iload_n 1, 1) := by decide +kernel
theorem dX7_drift_1 : decode cX7_drift 1 = .ok (.i2l, 1) := by decide +kernel
theorem dX7_drift_2 : decode cX7_drift 2 = .ok (.lconst 1, 1) := by decide +kernel
theorem dX7_drift_3 : decode cX7_drift 3 = .ok (.ldc2_w 181, 3) := by decide +kernel
theorem dX7_drift_6 : decode cX7_drift 6 = .ok (.invokestatic 63, 3) := by decide +kernel
theorem dX7_drift_9 : decode cX7_drift 9 = .ok (.ifCond .ne 5, 3) := by decide +kernel
theorem dX7_drift_12 : decode cX7_drift 12 = .ok (.iconst (-1), 1) := by decide +kernel
theorem dX7_drift_13 : decode cX7_drift 13 = .ok (.ireturn, 1) := by decide +kernel
theorem dX7_drift_14 : decode cX7_drift 14 = .ok (.aload_n 0, 1) := by decide +kernel
theorem dX7_drift_15 : decode cX7_drift 15 = .ok (.getfield 17, 3) := by decide +kernel
theorem dX7_drift_18 : decode cX7_drift 18 = .ok (.bipush 24, 2) := by decide +kernel
theorem dX7_drift_20 : decode cX7_drift 20 = .ok (.iaload, 1) := by decide +kernel
theorem dX7_drift_21 : decode cX7_drift 21 = .ok (.iload_n 1, 1) := by decide +kernel
theorem dX7_drift_22 : decode cX7_drift 22 = .ok (.iadd, 1) := by decide +kernel
theorem dX7_drift_23 : decode cX7_drift 23 = .ok (.sipush 9999, 3) := by decide +kernel
theorem dX7_drift_26 : decode cX7_drift 26 = .ok (.if_icmp .le 6, 3) := by decide +kernel
theorem dX7_drift_29 : decode cX7_drift 29 = .ok (.bipush (-3), 2) := by decide +kernel
theorem dX7_drift_31 : decode cX7_drift 31 = .ok (.ireturn, 1) := by decide +kernel
theorem dX7_drift_32 : decode cX7_drift 32 = .ok (.aload_n 0, 1) := by decide +kernel
theorem dX7_drift_33 : decode cX7_drift 33 = .ok (.getfield 17, 3) := by decide +kernel
theorem dX7_drift_36 : decode cX7_drift 36 = .ok (.bipush 25, 2) := by decide +kernel
theorem dX7_drift_38 : decode cX7_drift 38 = .ok (.iaload, 1) := by decide +kernel
theorem dX7_drift_39 : decode cX7_drift 39 = .ok (.istore_n 2, 1) := by decide +kernel
theorem dX7_drift_40 : decode cX7_drift 40 = .ok (.iconst 0, 1) := by decide +kernel
theorem dX7_drift_41 : decode cX7_drift 41 = .ok (.istore_n 3, 1) := by decide +kernel
theorem dX7_drift_42 : decode cX7_drift 42 = .ok (.iload_n 3, 1) := by decide +kernel
theorem dX7_drift_43 : decode cX7_drift 43 = .ok (.iload_n 1, 1) := by decide +kernel
theorem dX7_drift_44 : decode cX7_drift 44 = .ok (.if_icmp .ge 94, 3) := by decide +kernel
theorem dX7_drift_47 : decode cX7_drift 47 = .ok (.aload_n 0, 1) := by decide +kernel
theorem dX7_drift_48 : decode cX7_drift 48 = .ok (.invokevirtual 183, 3) := by decide +kernel
theorem dX7_drift_51 : decode cX7_drift 51 = .ok (.aload_n 0, 1) := by decide +kernel
theorem dX7_drift_52 : decode cX7_drift 52 = .ok (.invokevirtual 122, 3) := by decide +kernel
theorem dX7_drift_55 : decode cX7_drift 55 = .ok (.aload_n 0, 1) := by decide +kernel
theorem dX7_drift_56 : decode cX7_drift 56 = .ok (.getfield 17, 3) := by decide +kernel
theorem dX7_drift_59 : decode cX7_drift 59 = .ok (.bipush 26, 2) := by decide +kernel
theorem dX7_drift_61 : decode cX7_drift 61 = .ok (.iaload, 1) := by decide +kernel
theorem dX7_drift_62 : decode cX7_drift 62 = .ok (.i2l, 1) := by decide +kernel
theorem dX7_drift_63 : decode cX7_drift 63 = .ok (.ldc2_w 189, 3) := by decide +kernel
theorem dX7_drift_66 : decode cX7_drift 66 = .ok (.lmul, 1) := by decide +kernel
theorem dX7_drift_67 : decode cX7_drift 67 = .ok (.ldc2_w 191, 3) := by decide +kernel
theorem dX7_drift_70 : decode cX7_drift 70 = .ok (.ladd, 1) := by decide +kernel
theorem dX7_drift_71 : decode cX7_drift 71 = .ok (.ldc2_w 193, 3) := by decide +kernel
theorem dX7_drift_74 : decode cX7_drift 74 = .ok (.land, 1) := by decide +kernel
theorem dX7_drift_75 : decode cX7_drift 75 = .ok (.l2i, 1) := by decide +kernel
theorem dX7_drift_76 : decode cX7_drift 76 = .ok (.istore 4, 2) := by decide +kernel
theorem dX7_drift_78 : decode cX7_drift 78 = .ok (.aload_n 0, 1) := by decide +kernel
theorem dX7_drift_79 : decode cX7_drift 79 = .ok (.getfield 20, 3) := by decide +kernel
theorem dX7_drift_82 : decode cX7_drift 82 = .ok (.bipush 26, 2) := by decide +kernel
theorem dX7_drift_84 : decode cX7_drift 84 = .ok (.iload 4, 2) := by decide +kernel
theorem dX7_drift_86 : decode cX7_drift 86 = .ok (.iastore, 1) := by decide +kernel
theorem dX7_drift_87 : decode cX7_drift 87 = .ok (.aload_n 0, 1) := by decide +kernel
theorem dX7_drift_88 : decode cX7_drift 88 = .ok (.getfield 60, 3) := by decide +kernel
theorem dX7_drift_91 : decode cX7_drift 91 = .ok (.ifCond .le 33, 3) := by decide +kernel
theorem dX7_drift_94 : decode cX7_drift 94 = .ok (.aload_n 0, 1) := by decide +kernel
theorem dX7_drift_95 : decode cX7_drift 95 = .ok (.iload 4, 2) := by decide +kernel
theorem dX7_drift_97 : decode cX7_drift 97 = .ok (.ldc 195, 2) := by decide +kernel
theorem dX7_drift_99 : decode cX7_drift 99 = .ok (.idiv, 1) := by decide +kernel
theorem dX7_drift_100 : decode cX7_drift 100 = .ok (.aload_n 0, 1) := by decide +kernel
theorem dX7_drift_101 : decode cX7_drift 101 = .ok (.getfield 60, 3) := by decide +kernel
theorem dX7_drift_104 : decode cX7_drift 104 = .ok (.irem, 1) := by decide +kernel
theorem dX7_drift_105 : decode cX7_drift 105 = .ok (.iload 4, 2) := by decide +kernel
theorem dX7_drift_107 : decode cX7_drift 107 = .ok (.sipush 256, 3) := by decide +kernel
theorem dX7_drift_110 : decode cX7_drift 110 = .ok (.idiv, 1) := by decide +kernel
theorem dX7_drift_111 : decode cX7_drift 111 = .ok (.iconst 4, 1) := by decide +kernel
theorem dX7_drift_112 : decode cX7_drift 112 = .ok (.irem, 1) := by decide +kernel
theorem dX7_drift_113 : decode cX7_drift 113 = .ok (.iload 4, 2) := by decide +kernel
theorem dX7_drift_115 : decode cX7_drift 115 = .ok (.sipush 1024, 3) := by decide +kernel
theorem dX7_drift_118 : decode cX7_drift 118 = .ok (.idiv, 1) := by decide +kernel
theorem dX7_drift_119 : decode cX7_drift 119 = .ok (.iconst 4, 1) := by decide +kernel
theorem dX7_drift_120 : decode cX7_drift 120 = .ok (.irem, 1) := by decide +kernel
theorem dX7_drift_121 : decode cX7_drift 121 = .ok (.invokevirtual 89, 3) := by decide +kernel
theorem dX7_drift_124 : decode cX7_drift 124 = .ok (.aload_n 0, 1) := by decide +kernel
theorem dX7_drift_125 : decode cX7_drift 125 = .ok (.invokevirtual 97, 3) := by decide +kernel
theorem dX7_drift_128 : decode cX7_drift 128 = .ok (.aload_n 0, 1) := by decide +kernel
theorem dX7_drift_129 : decode cX7_drift 129 = .ok (.invokevirtual 186, 3) := by decide +kernel
theorem dX7_drift_132 : decode cX7_drift 132 = .ok (.iinc 3 1, 3) := by decide +kernel
theorem dX7_drift_135 : decode cX7_drift 135 = .ok (.goto (-93), 3) := by decide +kernel
theorem dX7_drift_138 : decode cX7_drift 138 = .ok (.aload_n 0, 1) := by decide +kernel
theorem dX7_drift_139 : decode cX7_drift 139 = .ok (.getfield 17, 3) := by decide +kernel
theorem dX7_drift_142 : decode cX7_drift 142 = .ok (.bipush 25, 2) := by decide +kernel
theorem dX7_drift_144 : decode cX7_drift 144 = .ok (.iaload, 1) := by decide +kernel
theorem dX7_drift_145 : decode cX7_drift 145 = .ok (.iload_n 2, 1) := by decide +kernel
theorem dX7_drift_146 : decode cX7_drift 146 = .ok (.isub, 1) := by decide +kernel
theorem dX7_drift_147 : decode cX7_drift 147 = .ok (.ireturn, 1) := by decide +kernel
theorem dX7_undo_0 : decode cX7_undo 0 = .ok (.aload_n 0, 1) := by decide +kernel
theorem dX7_undo_1 : decode cX7_undo 1 = .ok (.getfield 104, 3) := by decide +kernel
theorem dX7_undo_4 : decode cX7_undo 4 = .ok (.ifCond .ne 6, 3) := by decide +kernel
theorem dX7_undo_7 : decode cX7_undo 7 = .ok (.bipush (-4), 2) := by decide +kernel
theorem dX7_undo_9 : decode cX7_undo 9 = .ok (.ireturn, 1) := by decide +kernel
theorem dX7_undo_10 : decode cX7_undo 10 = .ok (.aload_n 0, 1) := by decide +kernel
theorem dX7_undo_11 : decode cX7_undo 11 = .ok (.dup, 1) := by decide +kernel
theorem dX7_undo_12 : decode cX7_undo 12 = .ok (.getfield 104, 3) := by decide +kernel
theorem dX7_undo_15 : decode cX7_undo 15 = .ok (.iconst 1, 1) := by decide +kernel
theorem dX7_undo_16 : decode cX7_undo 16 = .ok (.isub, 1) := by decide +kernel
theorem dX7_undo_17 : decode cX7_undo 17 = .ok (.putfield 104, 3) := by decide +kernel
theorem dX7_undo_20 : decode cX7_undo 20 = .ok (.iconst 0, 1) := by decide +kernel
theorem dX7_undo_21 : decode cX7_undo 21 = .ok (.istore_n 1, 1) := by decide +kernel
theorem dX7_undo_22 : decode cX7_undo 22 = .ok (.iload_n 1, 1) := by decide +kernel
theorem dX7_undo_23 : decode cX7_undo 23 = .ok (.bipush 27, 2) := by decide +kernel
theorem dX7_undo_25 : decode cX7_undo 25 = .ok (.if_icmp .ge 29, 3) := by decide +kernel
theorem dX7_undo_28 : decode cX7_undo 28 = .ok (.aload_n 0, 1) := by decide +kernel
theorem dX7_undo_29 : decode cX7_undo 29 = .ok (.getfield 17, 3) := by decide +kernel
theorem dX7_undo_32 : decode cX7_undo 32 = .ok (.iload_n 1, 1) := by decide +kernel
theorem dX7_undo_33 : decode cX7_undo 33 = .ok (.aload_n 0, 1) := by decide +kernel
theorem dX7_undo_34 : decode cX7_undo 34 = .ok (.getfield 23, 3) := by decide +kernel
theorem dX7_undo_37 : decode cX7_undo 37 = .ok (.bipush 27, 2) := by decide +kernel
theorem dX7_undo_39 : decode cX7_undo 39 = .ok (.aload_n 0, 1) := by decide +kernel
theorem dX7_undo_40 : decode cX7_undo 40 = .ok (.getfield 104, 3) := by decide +kernel
theorem dX7_undo_43 : decode cX7_undo 43 = .ok (.imul, 1) := by decide +kernel
theorem dX7_undo_44 : decode cX7_undo 44 = .ok (.iload_n 1, 1) := by decide +kernel
theorem dX7_undo_45 : decode cX7_undo 45 = .ok (.iadd, 1) := by decide +kernel
theorem dX7_undo_46 : decode cX7_undo 46 = .ok (.iaload, 1) := by decide +kernel
theorem dX7_undo_47 : decode cX7_undo 47 = .ok (.iastore, 1) := by decide +kernel
theorem dX7_undo_48 : decode cX7_undo 48 = .ok (.iinc 1 1, 3) := by decide +kernel
theorem dX7_undo_51 : decode cX7_undo 51 = .ok (.goto (-29), 3) := by decide +kernel
theorem dX7_undo_54 : decode cX7_undo 54 = .ok (.aload_n 0, 1) := by decide +kernel
theorem dX7_undo_55 : decode cX7_undo 55 = .ok (.getfield 104, 3) := by decide +kernel
theorem dX7_undo_58 : decode cX7_undo 58 = .ok (.ireturn, 1) := by decide +kernel
theorem dX7_seed_0 : decode cX7_seed 0 = .ok (.iload_n 1, 1) := by decide +kernel
theorem dX7_seed_1 : decode cX7_seed 1 = .ok (.ifCond .ge 5, 3) := by decide +kernel
theorem dX7_seed_4 : decode cX7_seed 4 = .ok (.iconst (-1), 1) := by decide +kernel
theorem dX7_seed_5 : decode cX7_seed 5 = .ok (.ireturn, 1) := by decide +kernel
theorem dX7_seed_6 : decode cX7_seed 6 = .ok (.aload_n 0, 1) := by decide +kernel
theorem dX7_seed_7 : decode cX7_seed 7 = .ok (.getfield 17, 3) := by decide +kernel
theorem dX7_seed_10 : decode cX7_seed 10 = .ok (.bipush 26, 2) := by decide +kernel
theorem dX7_seed_12 : decode cX7_seed 12 = .ok (.iaload, 1) := by decide +kernel
theorem dX7_seed_13 : decode cX7_seed 13 = .ok (.istore_n 2, 1) := by decide +kernel
theorem dX7_seed_14 : decode cX7_seed 14 = .ok (.aload_n 0, 1) := by decide +kernel
theorem dX7_seed_15 : decode cX7_seed 15 = .ok (.getfield 17, 3) := by decide +kernel
theorem dX7_seed_18 : decode cX7_seed 18 = .ok (.bipush 26, 2) := by decide +kernel
theorem dX7_seed_20 : decode cX7_seed 20 = .ok (.iload_n 1, 1) := by decide +kernel
theorem dX7_seed_21 : decode cX7_seed 21 = .ok (.iastore, 1) := by decide +kernel
theorem dX7_seed_22 : decode cX7_seed 22 = .ok (.iload_n 2, 1) := by decide +kernel
theorem dX7_seed_23 : decode cX7_seed 23 = .ok (.ireturn, 1) := by decide +kernel
theorem dX7_keeper_0 : decode cX7_keeper 0 = .ok (.iload_n 1, 1) := by decide +kernel
theorem dX7_keeper_1 : decode cX7_keeper 1 = .ok (.invokestatic 111, 3) := by decide +kernel
theorem dX7_keeper_4 : decode cX7_keeper 4 = .ok (.ifCond .eq 15, 3) := by decide +kernel
theorem dX7_keeper_7 : decode cX7_keeper 7 = .ok (.iload_n 2, 1) := by decide +kernel
theorem dX7_keeper_8 : decode cX7_keeper 8 = .ok (.i2l, 1) := by decide +kernel
theorem dX7_keeper_9 : decode cX7_keeper 9 = .ok (.lconst 0, 1) := by decide +kernel
theorem dX7_keeper_10 : decode cX7_keeper 10 = .ok (.ldc2_w 196, 3) := by decide +kernel
theorem dX7_keeper_13 : decode cX7_keeper 13 = .ok (.invokestatic 63, 3) := by decide +kernel
theorem dX7_keeper_16 : decode cX7_keeper 16 = .ok (.ifCond .ne 5, 3) := by decide +kernel
theorem dX7_keeper_19 : decode cX7_keeper 19 = .ok (.iconst (-1), 1) := by decide +kernel
theorem dX7_keeper_20 : decode cX7_keeper 20 = .ok (.ireturn, 1) := by decide +kernel
theorem dX7_keeper_21 : decode cX7_keeper 21 = .ok (.aload_n 0, 1) := by decide +kernel
theorem dX7_keeper_22 : decode cX7_keeper 22 = .ok (.invokevirtual 122, 3) := by decide +kernel
theorem dX7_keeper_25 : decode cX7_keeper 25 = .ok (.aload_n 0, 1) := by decide +kernel
theorem dX7_keeper_26 : decode cX7_keeper 26 = .ok (.iload_n 2, 1) := by decide +kernel
theorem dX7_keeper_27 : decode cX7_keeper 27 = .ok (.invokevirtual 198, 3) := by decide +kernel
theorem dX7_keeper_30 : decode cX7_keeper 30 = .ok (.aload_n 0, 1) := by decide +kernel
theorem dX7_keeper_31 : decode cX7_keeper 31 = .ok (.getfield 20, 3) := by decide +kernel
theorem dX7_keeper_34 : decode cX7_keeper 34 = .ok (.bipush 20, 2) := by decide +kernel
theorem dX7_keeper_36 : decode cX7_keeper 36 = .ok (.iload_n 1, 1) := by decide +kernel
theorem dX7_keeper_37 : decode cX7_keeper 37 = .ok (.iadd, 1) := by decide +kernel
theorem dX7_keeper_38 : decode cX7_keeper 38 = .ok (.iaload, 1) := by decide +kernel
theorem dX7_keeper_39 : decode cX7_keeper 39 = .ok (.ireturn, 1) := by decide +kernel
theorem dX7_ahead_0 : decode cX7_ahead 0 = .ok (.aload_n 0, 1) := by decide +kernel
theorem dX7_ahead_1 : decode cX7_ahead 1 = .ok (.iload_n 1, 1) := by decide +kernel
theorem dX7_ahead_2 : decode cX7_ahead 2 = .ok (.invokevirtual 107, 3) := by decide +kernel
theorem dX7_ahead_5 : decode cX7_ahead 5 = .ok (.ifCond .eq 22, 3) := by decide +kernel
theorem dX7_ahead_8 : decode cX7_ahead 8 = .ok (.iload_n 2, 1) := by decide +kernel
theorem dX7_ahead_9 : decode cX7_ahead 9 = .ok (.invokestatic 111, 3) := by decide +kernel
theorem dX7_ahead_12 : decode cX7_ahead 12 = .ok (.ifCond .eq 15, 3) := by decide +kernel
theorem dX7_ahead_15 : decode cX7_ahead 15 = .ok (.iload_n 3, 1) := by decide +kernel
theorem dX7_ahead_16 : decode cX7_ahead 16 = .ok (.i2l, 1) := by decide +kernel
theorem dX7_ahead_17 : decode cX7_ahead 17 = .ok (.lconst 0, 1) := by decide +kernel
theorem dX7_ahead_18 : decode cX7_ahead 18 = .ok (.ldc2_w 196, 3) := by decide +kernel
theorem dX7_ahead_21 : decode cX7_ahead 21 = .ok (.invokestatic 63, 3) := by decide +kernel
theorem dX7_ahead_24 : decode cX7_ahead 24 = .ok (.ifCond .ne 5, 3) := by decide +kernel
theorem dX7_ahead_27 : decode cX7_ahead 27 = .ok (.iconst (-1), 1) := by decide +kernel
theorem dX7_ahead_28 : decode cX7_ahead 28 = .ok (.ireturn, 1) := by decide +kernel
theorem dX7_ahead_29 : decode cX7_ahead 29 = .ok (.aload_n 0, 1) := by decide +kernel
theorem dX7_ahead_30 : decode cX7_ahead 30 = .ok (.invokevirtual 122, 3) := by decide +kernel
theorem dX7_ahead_33 : decode cX7_ahead 33 = .ok (.aload_n 0, 1) := by decide +kernel
theorem dX7_ahead_34 : decode cX7_ahead 34 = .ok (.iload_n 3, 1) := by decide +kernel
theorem dX7_ahead_35 : decode cX7_ahead 35 = .ok (.invokevirtual 198, 3) := by decide +kernel
theorem dX7_ahead_38 : decode cX7_ahead 38 = .ok (.aload_n 0, 1) := by decide +kernel
theorem dX7_ahead_39 : decode cX7_ahead 39 = .ok (.getfield 20, 3) := by decide +kernel
theorem dX7_ahead_42 : decode cX7_ahead 42 = .ok (.iconst 4, 1) := by decide +kernel
theorem dX7_ahead_43 : decode cX7_ahead 43 = .ok (.iload_n 1, 1) := by decide +kernel
theorem dX7_ahead_44 : decode cX7_ahead 44 = .ok (.imul, 1) := by decide +kernel
theorem dX7_ahead_45 : decode cX7_ahead 45 = .ok (.iload_n 2, 1) := by decide +kernel
theorem dX7_ahead_46 : decode cX7_ahead 46 = .ok (.iadd, 1) := by decide +kernel
theorem dX7_ahead_47 : decode cX7_ahead 47 = .ok (.iaload, 1) := by decide +kernel
theorem dX7_ahead_48 : decode cX7_ahead 48 = .ok (.ireturn, 1) := by decide +kernel
theorem dX7_then_0 : decode cX7_then 0 = .ok (.iload_n 1, 1) := by decide +kernel
theorem dX7_then_1 : decode cX7_then 1 = .ok (.i2l, 1) := by decide +kernel
theorem dX7_then_2 : decode cX7_then 2 = .ok (.lconst 0, 1) := by decide +kernel
theorem dX7_then_3 : decode cX7_then 3 = .ok (.ldc2_w 196, 3) := by decide +kernel
theorem dX7_then_6 : decode cX7_then 6 = .ok (.invokestatic 63, 3) := by decide +kernel
theorem dX7_then_9 : decode cX7_then 9 = .ok (.ifCond .ne 5, 3) := by decide +kernel
theorem dX7_then_12 : decode cX7_then 12 = .ok (.iconst (-1), 1) := by decide +kernel
theorem dX7_then_13 : decode cX7_then 13 = .ok (.ireturn, 1) := by decide +kernel
theorem dX7_then_14 : decode cX7_then 14 = .ok (.aload_n 0, 1) := by decide +kernel
theorem dX7_then_15 : decode cX7_then 15 = .ok (.invokevirtual 122, 3) := by decide +kernel
theorem dX7_then_18 : decode cX7_then 18 = .ok (.aload_n 0, 1) := by decide +kernel
theorem dX7_then_19 : decode cX7_then 19 = .ok (.iload_n 1, 1) := by decide +kernel
theorem dX7_then_20 : decode cX7_then 20 = .ok (.invokevirtual 198, 3) := by decide +kernel
theorem dX7_then_23 : decode cX7_then 23 = .ok (.aload_n 0, 1) := by decide +kernel
theorem dX7_then_24 : decode cX7_then 24 = .ok (.getfield 20, 3) := by decide +kernel
theorem dX7_then_27 : decode cX7_then 27 = .ok (.bipush 25, 2) := by decide +kernel
theorem dX7_then_29 : decode cX7_then 29 = .ok (.iaload, 1) := by decide +kernel
theorem dX7_then_30 : decode cX7_then 30 = .ok (.ireturn, 1) := by decide +kernel
theorem dX7_in_0 : decode cX7_in 0 = .ok (.iload_n 1, 1) := by decide +kernel
theorem dX7_in_1 : decode cX7_in 1 = .ok (.invokestatic 111, 3) := by decide +kernel
theorem dX7_in_4 : decode cX7_in 4 = .ok (.ifCond .ne 5, 3) := by decide +kernel
theorem dX7_in_7 : decode cX7_in 7 = .ok (.iconst (-1), 1) := by decide +kernel
theorem dX7_in_8 : decode cX7_in 8 = .ok (.ireturn, 1) := by decide +kernel
theorem dX7_in_9 : decode cX7_in 9 = .ok (.aload_n 0, 1) := by decide +kernel
theorem dX7_in_10 : decode cX7_in 10 = .ok (.invokevirtual 122, 3) := by decide +kernel
theorem dX7_in_13 : decode cX7_in 13 = .ok (.iconst 1, 1) := by decide +kernel
theorem dX7_in_14 : decode cX7_in 14 = .ok (.istore_n 2, 1) := by decide +kernel
theorem dX7_in_15 : decode cX7_in 15 = .ok (.iload_n 2, 1) := by decide +kernel
theorem dX7_in_16 : decode cX7_in 16 = .ok (.bipush 61, 2) := by decide +kernel
theorem dX7_in_18 : decode cX7_in 18 = .ok (.if_icmp .ge 27, 3) := by decide +kernel
theorem dX7_in_21 : decode cX7_in 21 = .ok (.aload_n 0, 1) := by decide +kernel
theorem dX7_in_22 : decode cX7_in 22 = .ok (.invokevirtual 97, 3) := by decide +kernel
theorem dX7_in_25 : decode cX7_in 25 = .ok (.aload_n 0, 1) := by decide +kernel
theorem dX7_in_26 : decode cX7_in 26 = .ok (.getfield 79, 3) := by decide +kernel
theorem dX7_in_29 : decode cX7_in 29 = .ok (.iload_n 1, 1) := by decide +kernel
theorem dX7_in_30 : decode cX7_in 30 = .ok (.ishr, 1) := by decide +kernel
theorem dX7_in_31 : decode cX7_in 31 = .ok (.iconst 1, 1) := by decide +kernel
theorem dX7_in_32 : decode cX7_in 32 = .ok (.iand, 1) := by decide +kernel
theorem dX7_in_33 : decode cX7_in 33 = .ok (.iconst 1, 1) := by decide +kernel
theorem dX7_in_34 : decode cX7_in 34 = .ok (.if_icmp .ne 5, 3) := by decide +kernel
theorem dX7_in_37 : decode cX7_in 37 = .ok (.iload_n 2, 1) := by decide +kernel
theorem dX7_in_38 : decode cX7_in 38 = .ok (.ireturn, 1) := by decide +kernel
theorem dX7_in_39 : decode cX7_in 39 = .ok (.iinc 2 1, 3) := by decide +kernel
theorem dX7_in_42 : decode cX7_in 42 = .ok (.goto (-27), 3) := by decide +kernel
theorem dX7_in_45 : decode cX7_in 45 = .ok (.bipush (-4), 2) := by decide +kernel
theorem dX7_in_47 : decode cX7_in 47 = .ok (.ireturn, 1) := by decide +kernel
theorem dX7_holds_0 : decode cX7_holds 0 = .ok (.iload_n 1, 1) := by decide +kernel
theorem dX7_holds_1 : decode cX7_holds 1 = .ok (.invokestatic 111, 3) := by decide +kernel
theorem dX7_holds_4 : decode cX7_holds 4 = .ok (.ifCond .ne 5, 3) := by decide +kernel
theorem dX7_holds_7 : decode cX7_holds 7 = .ok (.iconst (-1), 1) := by decide +kernel
theorem dX7_holds_8 : decode cX7_holds 8 = .ok (.ireturn, 1) := by decide +kernel
theorem dX7_holds_9 : decode cX7_holds 9 = .ok (.aload_n 0, 1) := by decide +kernel
theorem dX7_holds_10 : decode cX7_holds 10 = .ok (.invokevirtual 122, 3) := by decide +kernel
theorem dX7_holds_13 : decode cX7_holds 13 = .ok (.iconst 1, 1) := by decide +kernel
theorem dX7_holds_14 : decode cX7_holds 14 = .ok (.istore_n 2, 1) := by decide +kernel
theorem dX7_holds_15 : decode cX7_holds 15 = .ok (.iload_n 2, 1) := by decide +kernel
theorem dX7_holds_16 : decode cX7_holds 16 = .ok (.bipush 61, 2) := by decide +kernel
theorem dX7_holds_18 : decode cX7_holds 18 = .ok (.if_icmp .ge 48, 3) := by decide +kernel
theorem dX7_holds_21 : decode cX7_holds 21 = .ok (.aload_n 0, 1) := by decide +kernel
theorem dX7_holds_22 : decode cX7_holds 22 = .ok (.invokevirtual 97, 3) := by decide +kernel
theorem dX7_holds_25 : decode cX7_holds 25 = .ok (.aload_n 0, 1) := by decide +kernel
theorem dX7_holds_26 : decode cX7_holds 26 = .ok (.getfield 79, 3) := by decide +kernel
theorem dX7_holds_29 : decode cX7_holds 29 = .ok (.iload_n 1, 1) := by decide +kernel
theorem dX7_holds_30 : decode cX7_holds 30 = .ok (.ishr, 1) := by decide +kernel
theorem dX7_holds_31 : decode cX7_holds 31 = .ok (.iconst 1, 1) := by decide +kernel
theorem dX7_holds_32 : decode cX7_holds 32 = .ok (.iand, 1) := by decide +kernel
theorem dX7_holds_33 : decode cX7_holds 33 = .ok (.iconst 1, 1) := by decide +kernel
theorem dX7_holds_34 : decode cX7_holds 34 = .ok (.if_icmp .eq 24, 3) := by decide +kernel
theorem dX7_holds_37 : decode cX7_holds 37 = .ok (.aload_n 0, 1) := by decide +kernel
theorem dX7_holds_38 : decode cX7_holds 38 = .ok (.getfield 20, 3) := by decide +kernel
theorem dX7_holds_41 : decode cX7_holds 41 = .ok (.bipush 20, 2) := by decide +kernel
theorem dX7_holds_43 : decode cX7_holds 43 = .ok (.iload_n 1, 1) := by decide +kernel
theorem dX7_holds_44 : decode cX7_holds 44 = .ok (.iadd, 1) := by decide +kernel
theorem dX7_holds_45 : decode cX7_holds 45 = .ok (.iaload, 1) := by decide +kernel
theorem dX7_holds_46 : decode cX7_holds 46 = .ok (.aload_n 0, 1) := by decide +kernel
theorem dX7_holds_47 : decode cX7_holds 47 = .ok (.getfield 17, 3) := by decide +kernel
theorem dX7_holds_50 : decode cX7_holds 50 = .ok (.bipush 20, 2) := by decide +kernel
theorem dX7_holds_52 : decode cX7_holds 52 = .ok (.iload_n 1, 1) := by decide +kernel
theorem dX7_holds_53 : decode cX7_holds 53 = .ok (.iadd, 1) := by decide +kernel
theorem dX7_holds_54 : decode cX7_holds 54 = .ok (.iaload, 1) := by decide +kernel
theorem dX7_holds_55 : decode cX7_holds 55 = .ok (.if_icmp .eq 5, 3) := by decide +kernel
theorem dX7_holds_58 : decode cX7_holds 58 = .ok (.iload_n 2, 1) := by decide +kernel
theorem dX7_holds_59 : decode cX7_holds 59 = .ok (.ireturn, 1) := by decide +kernel
theorem dX7_holds_60 : decode cX7_holds 60 = .ok (.iinc 2 1, 3) := by decide +kernel
theorem dX7_holds_63 : decode cX7_holds 63 = .ok (.goto (-48), 3) := by decide +kernel
theorem dX7_holds_66 : decode cX7_holds 66 = .ok (.bipush (-4), 2) := by decide +kernel
theorem dX7_holds_68 : decode cX7_holds 68 = .ok (.ireturn, 1) := by decide +kernel
theorem dX7_had_0 : decode cX7_had 0 = .ok (.iload_n 1, 1) := by decide +kernel
theorem dX7_had_1 : decode cX7_had 1 = .ok (.invokestatic 111, 3) := by decide +kernel
theorem dX7_had_4 : decode cX7_had 4 = .ok (.ifCond .eq 15, 3) := by decide +kernel
theorem dX7_had_7 : decode cX7_had 7 = .ok (.iload_n 2, 1) := by decide +kernel
theorem dX7_had_8 : decode cX7_had 8 = .ok (.i2l, 1) := by decide +kernel
theorem dX7_had_9 : decode cX7_had 9 = .ok (.lconst 0, 1) := by decide +kernel
theorem dX7_had_10 : decode cX7_had 10 = .ok (.ldc2_w 196, 3) := by decide +kernel
theorem dX7_had_13 : decode cX7_had 13 = .ok (.invokestatic 63, 3) := by decide +kernel
theorem dX7_had_16 : decode cX7_had 16 = .ok (.ifCond .ne 5, 3) := by decide +kernel
theorem dX7_had_19 : decode cX7_had 19 = .ok (.iconst (-1), 1) := by decide +kernel
theorem dX7_had_20 : decode cX7_had 20 = .ok (.ireturn, 1) := by decide +kernel
theorem dX7_had_21 : decode cX7_had 21 = .ok (.aload_n 0, 1) := by decide +kernel
theorem dX7_had_22 : decode cX7_had 22 = .ok (.invokevirtual 122, 3) := by decide +kernel
theorem dX7_had_25 : decode cX7_had 25 = .ok (.aload_n 0, 1) := by decide +kernel
theorem dX7_had_26 : decode cX7_had 26 = .ok (.getfield 20, 3) := by decide +kernel
theorem dX7_had_29 : decode cX7_had 29 = .ok (.bipush 20, 2) := by decide +kernel
theorem dX7_had_31 : decode cX7_had 31 = .ok (.iload_n 1, 1) := by decide +kernel
theorem dX7_had_32 : decode cX7_had 32 = .ok (.iadd, 1) := by decide +kernel
theorem dX7_had_33 : decode cX7_had 33 = .ok (.iaload, 1) := by decide +kernel
theorem dX7_had_34 : decode cX7_had 34 = .ok (.bipush (-4), 2) := by decide +kernel
theorem dX7_had_36 : decode cX7_had 36 = .ok (.if_icmp .ne 7, 3) := by decide +kernel
theorem dX7_had_39 : decode cX7_had 39 = .ok (.iconst 0, 1) := by decide +kernel
theorem dX7_had_40 : decode cX7_had 40 = .ok (.goto 14, 3) := by decide +kernel
theorem dX7_had_43 : decode cX7_had 43 = .ok (.iconst 1, 1) := by decide +kernel
theorem dX7_had_44 : decode cX7_had 44 = .ok (.aload_n 0, 1) := by decide +kernel
theorem dX7_had_45 : decode cX7_had 45 = .ok (.getfield 20, 3) := by decide +kernel
theorem dX7_had_48 : decode cX7_had 48 = .ok (.bipush 20, 2) := by decide +kernel
theorem dX7_had_50 : decode cX7_had 50 = .ok (.iload_n 1, 1) := by decide +kernel
theorem dX7_had_51 : decode cX7_had 51 = .ok (.iadd, 1) := by decide +kernel
theorem dX7_had_52 : decode cX7_had 52 = .ok (.iaload, 1) := by decide +kernel
theorem dX7_had_53 : decode cX7_had 53 = .ok (.ishl, 1) := by decide +kernel
theorem dX7_had_54 : decode cX7_had 54 = .ok (.istore_n 3, 1) := by decide +kernel
theorem dX7_had_55 : decode cX7_had 55 = .ok (.iconst 0, 1) := by decide +kernel
theorem dX7_had_56 : decode cX7_had 56 = .ok (.istore 4, 2) := by decide +kernel
theorem dX7_had_58 : decode cX7_had 58 = .ok (.iload 4, 2) := by decide +kernel
theorem dX7_had_60 : decode cX7_had 60 = .ok (.iload_n 2, 1) := by decide +kernel
theorem dX7_had_61 : decode cX7_had 61 = .ok (.if_icmp .ge 45, 3) := by decide +kernel
theorem dX7_had_64 : decode cX7_had 64 = .ok (.aload_n 0, 1) := by decide +kernel
theorem dX7_had_65 : decode cX7_had 65 = .ok (.invokevirtual 97, 3) := by decide +kernel
theorem dX7_had_68 : decode cX7_had 68 = .ok (.iload_n 3, 1) := by decide +kernel
theorem dX7_had_69 : decode cX7_had 69 = .ok (.aload_n 0, 1) := by decide +kernel
theorem dX7_had_70 : decode cX7_had 70 = .ok (.getfield 20, 3) := by decide +kernel
theorem dX7_had_73 : decode cX7_had 73 = .ok (.bipush 20, 2) := by decide +kernel
theorem dX7_had_75 : decode cX7_had 75 = .ok (.iload_n 1, 1) := by decide +kernel
theorem dX7_had_76 : decode cX7_had 76 = .ok (.iadd, 1) := by decide +kernel
theorem dX7_had_77 : decode cX7_had 77 = .ok (.iaload, 1) := by decide +kernel
theorem dX7_had_78 : decode cX7_had 78 = .ok (.bipush (-4), 2) := by decide +kernel
theorem dX7_had_80 : decode cX7_had 80 = .ok (.if_icmp .ne 7, 3) := by decide +kernel
theorem dX7_had_83 : decode cX7_had 83 = .ok (.iconst 0, 1) := by decide +kernel
theorem dX7_had_84 : decode cX7_had 84 = .ok (.goto 14, 3) := by decide +kernel
theorem dX7_had_87 : decode cX7_had 87 = .ok (.iconst 1, 1) := by decide +kernel
theorem dX7_had_88 : decode cX7_had 88 = .ok (.aload_n 0, 1) := by decide +kernel
theorem dX7_had_89 : decode cX7_had 89 = .ok (.getfield 20, 3) := by decide +kernel
theorem dX7_had_92 : decode cX7_had 92 = .ok (.bipush 20, 2) := by decide +kernel
theorem dX7_had_94 : decode cX7_had 94 = .ok (.iload_n 1, 1) := by decide +kernel
theorem dX7_had_95 : decode cX7_had 95 = .ok (.iadd, 1) := by decide +kernel
theorem dX7_had_96 : decode cX7_had 96 = .ok (.iaload, 1) := by decide +kernel
theorem dX7_had_97 : decode cX7_had 97 = .ok (.ishl, 1) := by decide +kernel
theorem dX7_had_98 : decode cX7_had 98 = .ok (.ior, 1) := by decide +kernel
theorem dX7_had_99 : decode cX7_had 99 = .ok (.istore_n 3, 1) := by decide +kernel
theorem dX7_had_100 : decode cX7_had 100 = .ok (.iinc 4 1, 3) := by decide +kernel
theorem dX7_had_103 : decode cX7_had 103 = .ok (.goto (-45), 3) := by decide +kernel
theorem dX7_had_106 : decode cX7_had 106 = .ok (.iload_n 3, 1) := by decide +kernel
theorem dX7_had_107 : decode cX7_had 107 = .ok (.ireturn, 1) := by decide +kernel
theorem dX7_keep_0 : decode cX7_keep 0 = .ok (.iload_n 1, 1) := by decide +kernel
theorem dX7_keep_1 : decode cX7_keep 1 = .ok (.i2l, 1) := by decide +kernel
theorem dX7_keep_2 : decode cX7_keep 2 = .ok (.lconst 1, 1) := by decide +kernel
theorem dX7_keep_3 : decode cX7_keep 3 = .ok (.ldc2_w 201, 3) := by decide +kernel
theorem dX7_keep_6 : decode cX7_keep 6 = .ok (.invokestatic 63, 3) := by decide +kernel
theorem dX7_keep_9 : decode cX7_keep 9 = .ok (.ifCond .eq 17, 3) := by decide +kernel
theorem dX7_keep_12 : decode cX7_keep 12 = .ok (.iload_n 2, 1) := by decide +kernel
theorem dX7_keep_13 : decode cX7_keep 13 = .ok (.i2l, 1) := by decide +kernel
theorem dX7_keep_14 : decode cX7_keep 14 = .ok (.ldc2_w 203, 3) := by decide +kernel
theorem dX7_keep_17 : decode cX7_keep 17 = .ok (.ldc2_w 67, 3) := by decide +kernel
theorem dX7_keep_20 : decode cX7_keep 20 = .ok (.invokestatic 63, 3) := by decide +kernel
theorem dX7_keep_23 : decode cX7_keep 23 = .ok (.ifCond .ne 5, 3) := by decide +kernel
theorem dX7_keep_26 : decode cX7_keep 26 = .ok (.iconst (-1), 1) := by decide +kernel
theorem dX7_keep_27 : decode cX7_keep 27 = .ok (.ireturn, 1) := by decide +kernel
theorem dX7_keep_28 : decode cX7_keep 28 = .ok (.aload_n 0, 1) := by decide +kernel
theorem dX7_keep_29 : decode cX7_keep 29 = .ok (.getfield 60, 3) := by decide +kernel
theorem dX7_keep_32 : decode cX7_keep 32 = .ok (.aload_n 0, 1) := by decide +kernel
theorem dX7_keep_33 : decode cX7_keep 33 = .ok (.getfield 60, 3) := by decide +kernel
theorem dX7_keep_36 : decode cX7_keep 36 = .ok (.imul, 1) := by decide +kernel
theorem dX7_keep_37 : decode cX7_keep 37 = .ok (.aload_n 0, 1) := by decide +kernel
theorem dX7_keep_38 : decode cX7_keep 38 = .ok (.getfield 60, 3) := by decide +kernel
theorem dX7_keep_41 : decode cX7_keep 41 = .ok (.imul, 1) := by decide +kernel
theorem dX7_keep_42 : decode cX7_keep 42 = .ok (.aload_n 0, 1) := by decide +kernel
theorem dX7_keep_43 : decode cX7_keep 43 = .ok (.getfield 60, 3) := by decide +kernel
theorem dX7_keep_46 : decode cX7_keep 46 = .ok (.imul, 1) := by decide +kernel
theorem dX7_keep_47 : decode cX7_keep 47 = .ok (.istore_n 3, 1) := by decide +kernel
theorem dX7_keep_48 : decode cX7_keep 48 = .ok (.bipush (-4), 2) := by decide +kernel
theorem dX7_keep_50 : decode cX7_keep 50 = .ok (.istore 4, 2) := by decide +kernel
theorem dX7_keep_52 : decode cX7_keep 52 = .ok (.iconst 0, 1) := by decide +kernel
theorem dX7_keep_53 : decode cX7_keep 53 = .ok (.istore 5, 2) := by decide +kernel
theorem dX7_keep_55 : decode cX7_keep 55 = .ok (.iconst 0, 1) := by decide +kernel
theorem dX7_keep_56 : decode cX7_keep 56 = .ok (.istore 6, 2) := by decide +kernel
theorem dX7_keep_58 : decode cX7_keep 58 = .ok (.iconst 0, 1) := by decide +kernel
theorem dX7_keep_59 : decode cX7_keep 59 = .ok (.istore 7, 2) := by decide +kernel
theorem dX7_keep_61 : decode cX7_keep 61 = .ok (.iload 7, 2) := by decide +kernel
theorem dX7_keep_63 : decode cX7_keep 63 = .ok (.iload_n 3, 1) := by decide +kernel
theorem dX7_keep_64 : decode cX7_keep 64 = .ok (.if_icmp .ge 189, 3) := by decide +kernel
theorem dX7_keep_67 : decode cX7_keep 67 = .ok (.aload_n 0, 1) := by decide +kernel
theorem dX7_keep_68 : decode cX7_keep 68 = .ok (.invokevirtual 122, 3) := by decide +kernel
theorem dX7_keep_71 : decode cX7_keep 71 = .ok (.iload 7, 2) := by decide +kernel
theorem dX7_keep_73 : decode cX7_keep 73 = .ok (.istore 8, 2) := by decide +kernel
theorem dX7_keep_75 : decode cX7_keep 75 = .ok (.iconst 0, 1) := by decide +kernel
theorem dX7_keep_76 : decode cX7_keep 76 = .ok (.istore 9, 2) := by decide +kernel
theorem dX7_keep_78 : decode cX7_keep 78 = .ok (.iconst 3, 1) := by decide +kernel
theorem dX7_keep_79 : decode cX7_keep 79 = .ok (.istore 10, 2) := by decide +kernel
theorem dX7_keep_81 : decode cX7_keep 81 = .ok (.iload 10, 2) := by decide +kernel
theorem dX7_keep_83 : decode cX7_keep 83 = .ok (.ifCond .lt 65, 3) := by decide +kernel
theorem dX7_keep_86 : decode cX7_keep 86 = .ok (.iload 9, 2) := by decide +kernel
theorem dX7_keep_88 : decode cX7_keep 88 = .ok (.aload_n 0, 1) := by decide +kernel
theorem dX7_keep_89 : decode cX7_keep 89 = .ok (.getfield 17, 3) := by decide +kernel
theorem dX7_keep_92 : decode cX7_keep 92 = .ok (.bipush 20, 2) := by decide +kernel
theorem dX7_keep_94 : decode cX7_keep 94 = .ok (.iload 10, 2) := by decide +kernel
theorem dX7_keep_96 : decode cX7_keep 96 = .ok (.iadd, 1) := by decide +kernel
theorem dX7_keep_97 : decode cX7_keep 97 = .ok (.iaload, 1) := by decide +kernel
theorem dX7_keep_98 : decode cX7_keep 98 = .ok (.iload 8, 2) := by decide +kernel
theorem dX7_keep_100 : decode cX7_keep 100 = .ok (.aload_n 0, 1) := by decide +kernel
theorem dX7_keep_101 : decode cX7_keep 101 = .ok (.getfield 60, 3) := by decide +kernel
theorem dX7_keep_104 : decode cX7_keep 104 = .ok (.irem, 1) := by decide +kernel
theorem dX7_keep_105 : decode cX7_keep 105 = .ok (.if_icmp .ne 7, 3) := by decide +kernel
theorem dX7_keep_108 : decode cX7_keep 108 = .ok (.iconst 0, 1) := by decide +kernel
theorem dX7_keep_109 : decode cX7_keep 109 = .ok (.goto 4, 3) := by decide +kernel
theorem dX7_keep_112 : decode cX7_keep 112 = .ok (.iconst 1, 1) := by decide +kernel
theorem dX7_keep_113 : decode cX7_keep 113 = .ok (.iadd, 1) := by decide +kernel
theorem dX7_keep_114 : decode cX7_keep 114 = .ok (.istore 9, 2) := by decide +kernel
theorem dX7_keep_116 : decode cX7_keep 116 = .ok (.aload_n 0, 1) := by decide +kernel
theorem dX7_keep_117 : decode cX7_keep 117 = .ok (.getfield 20, 3) := by decide +kernel
theorem dX7_keep_120 : decode cX7_keep 120 = .ok (.bipush 20, 2) := by decide +kernel
theorem dX7_keep_122 : decode cX7_keep 122 = .ok (.iload 10, 2) := by decide +kernel
theorem dX7_keep_124 : decode cX7_keep 124 = .ok (.iadd, 1) := by decide +kernel
theorem dX7_keep_125 : decode cX7_keep 125 = .ok (.iload 8, 2) := by decide +kernel
theorem dX7_keep_127 : decode cX7_keep 127 = .ok (.aload_n 0, 1) := by decide +kernel
theorem dX7_keep_128 : decode cX7_keep 128 = .ok (.getfield 60, 3) := by decide +kernel
theorem dX7_keep_131 : decode cX7_keep 131 = .ok (.irem, 1) := by decide +kernel
theorem dX7_keep_132 : decode cX7_keep 132 = .ok (.iastore, 1) := by decide +kernel
theorem dX7_keep_133 : decode cX7_keep 133 = .ok (.iload 8, 2) := by decide +kernel
theorem dX7_keep_135 : decode cX7_keep 135 = .ok (.aload_n 0, 1) := by decide +kernel
theorem dX7_keep_136 : decode cX7_keep 136 = .ok (.getfield 60, 3) := by decide +kernel
theorem dX7_keep_139 : decode cX7_keep 139 = .ok (.idiv, 1) := by decide +kernel
theorem dX7_keep_140 : decode cX7_keep 140 = .ok (.istore 8, 2) := by decide +kernel
theorem dX7_keep_142 : decode cX7_keep 142 = .ok (.iinc 10 (-1), 3) := by decide +kernel
theorem dX7_keep_145 : decode cX7_keep 145 = .ok (.goto (-64), 3) := by decide +kernel
theorem dX7_keep_148 : decode cX7_keep 148 = .ok (.aload_n 0, 1) := by decide +kernel
theorem dX7_keep_149 : decode cX7_keep 149 = .ok (.iload_n 1, 1) := by decide +kernel
theorem dX7_keep_150 : decode cX7_keep 150 = .ok (.invokevirtual 198, 3) := by decide +kernel
theorem dX7_keep_153 : decode cX7_keep 153 = .ok (.aload_n 0, 1) := by decide +kernel
theorem dX7_keep_154 : decode cX7_keep 154 = .ok (.getfield 20, 3) := by decide +kernel
theorem dX7_keep_157 : decode cX7_keep 157 = .ok (.bipush 25, 2) := by decide +kernel
theorem dX7_keep_159 : decode cX7_keep 159 = .ok (.iaload, 1) := by decide +kernel
theorem dX7_keep_160 : decode cX7_keep 160 = .ok (.aload_n 0, 1) := by decide +kernel
theorem dX7_keep_161 : decode cX7_keep 161 = .ok (.getfield 17, 3) := by decide +kernel
theorem dX7_keep_164 : decode cX7_keep 164 = .ok (.bipush 25, 2) := by decide +kernel
theorem dX7_keep_166 : decode cX7_keep 166 = .ok (.iaload, 1) := by decide +kernel
theorem dX7_keep_167 : decode cX7_keep 167 = .ok (.isub, 1) := by decide +kernel
theorem dX7_keep_168 : decode cX7_keep 168 = .ok (.istore 10, 2) := by decide +kernel
theorem dX7_keep_170 : decode cX7_keep 170 = .ok (.iload 4, 2) := by decide +kernel
theorem dX7_keep_172 : decode cX7_keep 172 = .ok (.bipush (-4), 2) := by decide +kernel
theorem dX7_keep_174 : decode cX7_keep 174 = .ok (.if_icmp .eq 24, 3) := by decide +kernel
theorem dX7_keep_177 : decode cX7_keep 177 = .ok (.iload 10, 2) := by decide +kernel
theorem dX7_keep_179 : decode cX7_keep 179 = .ok (.iload 5, 2) := by decide +kernel
theorem dX7_keep_181 : decode cX7_keep 181 = .ok (.if_icmp .lt 17, 3) := by decide +kernel
theorem dX7_keep_184 : decode cX7_keep 184 = .ok (.iload 10, 2) := by decide +kernel
theorem dX7_keep_186 : decode cX7_keep 186 = .ok (.iload 5, 2) := by decide +kernel
theorem dX7_keep_188 : decode cX7_keep 188 = .ok (.if_icmp .ne 14, 3) := by decide +kernel
theorem dX7_keep_191 : decode cX7_keep 191 = .ok (.iload 9, 2) := by decide +kernel
theorem dX7_keep_193 : decode cX7_keep 193 = .ok (.iload 6, 2) := by decide +kernel
theorem dX7_keep_195 : decode cX7_keep 195 = .ok (.if_icmp .ge 7, 3) := by decide +kernel
theorem dX7_keep_198 : decode cX7_keep 198 = .ok (.iconst 1, 1) := by decide +kernel
theorem dX7_keep_199 : decode cX7_keep 199 = .ok (.goto 4, 3) := by decide +kernel
theorem dX7_keep_202 : decode cX7_keep 202 = .ok (.iconst 0, 1) := by decide +kernel
theorem dX7_keep_203 : decode cX7_keep 203 = .ok (.istore 11, 2) := by decide +kernel
theorem dX7_keep_205 : decode cX7_keep 205 = .ok (.iload 11, 2) := by decide +kernel
theorem dX7_keep_207 : decode cX7_keep 207 = .ok (.ifCond .eq 8, 3) := by decide +kernel
theorem dX7_keep_210 : decode cX7_keep 210 = .ok (.iload 7, 2) := by decide +kernel
theorem dX7_keep_212 : decode cX7_keep 212 = .ok (.goto 5, 3) := by decide +kernel
theorem dX7_keep_215 : decode cX7_keep 215 = .ok (.iload 4, 2) := by decide +kernel
theorem dX7_keep_217 : decode cX7_keep 217 = .ok (.istore 4, 2) := by decide +kernel
theorem dX7_keep_219 : decode cX7_keep 219 = .ok (.iload 11, 2) := by decide +kernel
theorem dX7_keep_221 : decode cX7_keep 221 = .ok (.ifCond .eq 8, 3) := by decide +kernel
theorem dX7_keep_224 : decode cX7_keep 224 = .ok (.iload 10, 2) := by decide +kernel
theorem dX7_keep_226 : decode cX7_keep 226 = .ok (.goto 5, 3) := by decide +kernel
theorem dX7_keep_229 : decode cX7_keep 229 = .ok (.iload 5, 2) := by decide +kernel
theorem dX7_keep_231 : decode cX7_keep 231 = .ok (.istore 5, 2) := by decide +kernel
theorem dX7_keep_233 : decode cX7_keep 233 = .ok (.iload 11, 2) := by decide +kernel
theorem dX7_keep_235 : decode cX7_keep 235 = .ok (.ifCond .eq 8, 3) := by decide +kernel
theorem dX7_keep_238 : decode cX7_keep 238 = .ok (.iload 9, 2) := by decide +kernel
theorem dX7_keep_240 : decode cX7_keep 240 = .ok (.goto 5, 3) := by decide +kernel
theorem dX7_keep_243 : decode cX7_keep 243 = .ok (.iload 6, 2) := by decide +kernel
theorem dX7_keep_245 : decode cX7_keep 245 = .ok (.istore 6, 2) := by decide +kernel
theorem dX7_keep_247 : decode cX7_keep 247 = .ok (.iinc 7 1, 3) := by decide +kernel
theorem dX7_keep_250 : decode cX7_keep 250 = .ok (.goto (-189), 3) := by decide +kernel
theorem dX7_keep_253 : decode cX7_keep 253 = .ok (.iload 4, 2) := by decide +kernel
theorem dX7_keep_255 : decode cX7_keep 255 = .ok (.bipush (-4), 2) := by decide +kernel
theorem dX7_keep_257 : decode cX7_keep 257 = .ok (.if_icmp .ne 6, 3) := by decide +kernel
theorem dX7_keep_260 : decode cX7_keep 260 = .ok (.bipush (-4), 2) := by decide +kernel
theorem dX7_keep_262 : decode cX7_keep 262 = .ok (.ireturn, 1) := by decide +kernel
theorem dX7_keep_263 : decode cX7_keep 263 = .ok (.iload_n 2, 1) := by decide +kernel
theorem dX7_keep_264 : decode cX7_keep 264 = .ok (.ifCond .ne 20, 3) := by decide +kernel
theorem dX7_keep_267 : decode cX7_keep 267 = .ok (.aload_n 0, 1) := by decide +kernel
theorem dX7_keep_268 : decode cX7_keep 268 = .ok (.getfield 60, 3) := by decide +kernel
theorem dX7_keep_271 : decode cX7_keep 271 = .ok (.aload_n 0, 1) := by decide +kernel
theorem dX7_keep_272 : decode cX7_keep 272 = .ok (.getfield 60, 3) := by decide +kernel
theorem dX7_keep_275 : decode cX7_keep 275 = .ok (.imul, 1) := by decide +kernel
theorem dX7_keep_276 : decode cX7_keep 276 = .ok (.aload_n 0, 1) := by decide +kernel
theorem dX7_keep_277 : decode cX7_keep 277 = .ok (.getfield 60, 3) := by decide +kernel
theorem dX7_keep_280 : decode cX7_keep 280 = .ok (.imul, 1) := by decide +kernel
theorem dX7_keep_281 : decode cX7_keep 281 = .ok (.goto 33, 3) := by decide +kernel
theorem dX7_keep_284 : decode cX7_keep 284 = .ok (.iload_n 2, 1) := by decide +kernel
theorem dX7_keep_285 : decode cX7_keep 285 = .ok (.iconst 1, 1) := by decide +kernel
theorem dX7_keep_286 : decode cX7_keep 286 = .ok (.if_icmp .ne 15, 3) := by decide +kernel
theorem dX7_keep_289 : decode cX7_keep 289 = .ok (.aload_n 0, 1) := by decide +kernel
theorem dX7_keep_290 : decode cX7_keep 290 = .ok (.getfield 60, 3) := by decide +kernel
theorem dX7_keep_293 : decode cX7_keep 293 = .ok (.aload_n 0, 1) := by decide +kernel
theorem dX7_keep_294 : decode cX7_keep 294 = .ok (.getfield 60, 3) := by decide +kernel
theorem dX7_keep_297 : decode cX7_keep 297 = .ok (.imul, 1) := by decide +kernel
theorem dX7_keep_298 : decode cX7_keep 298 = .ok (.goto 16, 3) := by decide +kernel
theorem dX7_keep_301 : decode cX7_keep 301 = .ok (.iload_n 2, 1) := by decide +kernel
theorem dX7_keep_302 : decode cX7_keep 302 = .ok (.iconst 2, 1) := by decide +kernel
theorem dX7_keep_303 : decode cX7_keep 303 = .ok (.if_icmp .ne 10, 3) := by decide +kernel
theorem dX7_keep_306 : decode cX7_keep 306 = .ok (.aload_n 0, 1) := by decide +kernel
theorem dX7_keep_307 : decode cX7_keep 307 = .ok (.getfield 60, 3) := by decide +kernel
theorem dX7_keep_310 : decode cX7_keep 310 = .ok (.goto 4, 3) := by decide +kernel
theorem dX7_keep_313 : decode cX7_keep 313 = .ok (.iconst 1, 1) := by decide +kernel
theorem dX7_keep_314 : decode cX7_keep 314 = .ok (.istore 7, 2) := by decide +kernel
theorem dX7_keep_316 : decode cX7_keep 316 = .ok (.iload_n 2, 1) := by decide +kernel
theorem dX7_keep_317 : decode cX7_keep 317 = .ok (.iconst (-1), 1) := by decide +kernel
theorem dX7_keep_318 : decode cX7_keep 318 = .ok (.if_icmp .ne 8, 3) := by decide +kernel
theorem dX7_keep_321 : decode cX7_keep 321 = .ok (.iload 5, 2) := by decide +kernel
theorem dX7_keep_323 : decode cX7_keep 323 = .ok (.goto 24, 3) := by decide +kernel
theorem dX7_keep_326 : decode cX7_keep 326 = .ok (.iload_n 2, 1) := by decide +kernel
theorem dX7_keep_327 : decode cX7_keep 327 = .ok (.bipush (-2), 2) := by decide +kernel
theorem dX7_keep_329 : decode cX7_keep 329 = .ok (.if_icmp .ne 8, 3) := by decide +kernel
theorem dX7_keep_332 : decode cX7_keep 332 = .ok (.iload 6, 2) := by decide +kernel
theorem dX7_keep_334 : decode cX7_keep 334 = .ok (.goto 13, 3) := by decide +kernel
theorem dX7_keep_337 : decode cX7_keep 337 = .ok (.iload 4, 2) := by decide +kernel
theorem dX7_keep_339 : decode cX7_keep 339 = .ok (.iload 7, 2) := by decide +kernel
theorem dX7_keep_341 : decode cX7_keep 341 = .ok (.idiv, 1) := by decide +kernel
theorem dX7_keep_342 : decode cX7_keep 342 = .ok (.aload_n 0, 1) := by decide +kernel
theorem dX7_keep_343 : decode cX7_keep 343 = .ok (.getfield 60, 3) := by decide +kernel
theorem dX7_keep_346 : decode cX7_keep 346 = .ok (.irem, 1) := by decide +kernel
theorem dX7_keep_347 : decode cX7_keep 347 = .ok (.ireturn, 1) := by decide +kernel
theorem dX7_tempt_0 : decode cX7_tempt 0 = .ok (.iload_n 1, 1) := by decide +kernel
theorem dX7_tempt_1 : decode cX7_tempt 1 = .ok (.invokestatic 111, 3) := by decide +kernel
theorem dX7_tempt_4 : decode cX7_tempt 4 = .ok (.ifCond .eq 15, 3) := by decide +kernel
theorem dX7_tempt_7 : decode cX7_tempt 7 = .ok (.iload_n 2, 1) := by decide +kernel
theorem dX7_tempt_8 : decode cX7_tempt 8 = .ok (.i2l, 1) := by decide +kernel
theorem dX7_tempt_9 : decode cX7_tempt 9 = .ok (.lconst 1, 1) := by decide +kernel
theorem dX7_tempt_10 : decode cX7_tempt 10 = .ok (.ldc2_w 201, 3) := by decide +kernel
theorem dX7_tempt_13 : decode cX7_tempt 13 = .ok (.invokestatic 63, 3) := by decide +kernel
theorem dX7_tempt_16 : decode cX7_tempt 16 = .ok (.ifCond .ne 5, 3) := by decide +kernel
theorem dX7_tempt_19 : decode cX7_tempt 19 = .ok (.iconst (-1), 1) := by decide +kernel
theorem dX7_tempt_20 : decode cX7_tempt 20 = .ok (.ireturn, 1) := by decide +kernel
theorem dX7_tempt_21 : decode cX7_tempt 21 = .ok (.iconst 0, 1) := by decide +kernel
theorem dX7_tempt_22 : decode cX7_tempt 22 = .ok (.istore_n 3, 1) := by decide +kernel
theorem dX7_tempt_23 : decode cX7_tempt 23 = .ok (.iload_n 3, 1) := by decide +kernel
theorem dX7_tempt_24 : decode cX7_tempt 24 = .ok (.bipush 21, 2) := by decide +kernel
theorem dX7_tempt_26 : decode cX7_tempt 26 = .ok (.if_icmp .ge 95, 3) := by decide +kernel
theorem dX7_tempt_29 : decode cX7_tempt 29 = .ok (.aload_n 0, 1) := by decide +kernel
theorem dX7_tempt_30 : decode cX7_tempt 30 = .ok (.getfield 17, 3) := by decide +kernel
theorem dX7_tempt_33 : decode cX7_tempt 33 = .ok (.bipush 20, 2) := by decide +kernel
theorem dX7_tempt_35 : decode cX7_tempt 35 = .ok (.iload_n 1, 1) := by decide +kernel
theorem dX7_tempt_36 : decode cX7_tempt 36 = .ok (.iadd, 1) := by decide +kernel
theorem dX7_tempt_37 : decode cX7_tempt 37 = .ok (.iaload, 1) := by decide +kernel
theorem dX7_tempt_38 : decode cX7_tempt 38 = .ok (.bipush (-4), 2) := by decide +kernel
theorem dX7_tempt_40 : decode cX7_tempt 40 = .ok (.if_icmp .eq 81, 3) := by decide +kernel
theorem dX7_tempt_43 : decode cX7_tempt 43 = .ok (.aload_n 0, 1) := by decide +kernel
theorem dX7_tempt_44 : decode cX7_tempt 44 = .ok (.invokevirtual 122, 3) := by decide +kernel
theorem dX7_tempt_47 : decode cX7_tempt 47 = .ok (.aload_n 0, 1) := by decide +kernel
theorem dX7_tempt_48 : decode cX7_tempt 48 = .ok (.aload_n 0, 1) := by decide +kernel
theorem dX7_tempt_49 : decode cX7_tempt 49 = .ok (.getfield 17, 3) := by decide +kernel
theorem dX7_tempt_52 : decode cX7_tempt 52 = .ok (.bipush 20, 2) := by decide +kernel
theorem dX7_tempt_54 : decode cX7_tempt 54 = .ok (.iload_n 1, 1) := by decide +kernel
theorem dX7_tempt_55 : decode cX7_tempt 55 = .ok (.iadd, 1) := by decide +kernel
theorem dX7_tempt_56 : decode cX7_tempt 56 = .ok (.iaload, 1) := by decide +kernel
theorem dX7_tempt_57 : decode cX7_tempt 57 = .ok (.iload_n 1, 1) := by decide +kernel
theorem dX7_tempt_58 : decode cX7_tempt 58 = .ok (.iload_n 3, 1) := by decide +kernel
theorem dX7_tempt_59 : decode cX7_tempt 59 = .ok (.invokevirtual 89, 3) := by decide +kernel
theorem dX7_tempt_62 : decode cX7_tempt 62 = .ok (.iconst 0, 1) := by decide +kernel
theorem dX7_tempt_63 : decode cX7_tempt 63 = .ok (.istore 4, 2) := by decide +kernel
theorem dX7_tempt_65 : decode cX7_tempt 65 = .ok (.iconst 0, 1) := by decide +kernel
theorem dX7_tempt_66 : decode cX7_tempt 66 = .ok (.istore 5, 2) := by decide +kernel
theorem dX7_tempt_68 : decode cX7_tempt 68 = .ok (.iload 5, 2) := by decide +kernel
theorem dX7_tempt_70 : decode cX7_tempt 70 = .ok (.iload_n 2, 1) := by decide +kernel
theorem dX7_tempt_71 : decode cX7_tempt 71 = .ok (.if_icmp .ge 37, 3) := by decide +kernel
theorem dX7_tempt_74 : decode cX7_tempt 74 = .ok (.aload_n 0, 1) := by decide +kernel
theorem dX7_tempt_75 : decode cX7_tempt 75 = .ok (.invokevirtual 97, 3) := by decide +kernel
theorem dX7_tempt_78 : decode cX7_tempt 78 = .ok (.iload 4, 2) := by decide +kernel
theorem dX7_tempt_80 : decode cX7_tempt 80 = .ok (.ifCond .ne 15, 3) := by decide +kernel
theorem dX7_tempt_83 : decode cX7_tempt 83 = .ok (.aload_n 0, 1) := by decide +kernel
theorem dX7_tempt_84 : decode cX7_tempt 84 = .ok (.getfield 79, 3) := by decide +kernel
theorem dX7_tempt_87 : decode cX7_tempt 87 = .ok (.iload_n 1, 1) := by decide +kernel
theorem dX7_tempt_88 : decode cX7_tempt 88 = .ok (.ishr, 1) := by decide +kernel
theorem dX7_tempt_89 : decode cX7_tempt 89 = .ok (.iconst 1, 1) := by decide +kernel
theorem dX7_tempt_90 : decode cX7_tempt 90 = .ok (.iand, 1) := by decide +kernel
theorem dX7_tempt_91 : decode cX7_tempt 91 = .ok (.iconst 1, 1) := by decide +kernel
theorem dX7_tempt_92 : decode cX7_tempt 92 = .ok (.if_icmp .ne 7, 3) := by decide +kernel
theorem dX7_tempt_95 : decode cX7_tempt 95 = .ok (.iconst 1, 1) := by decide +kernel
theorem dX7_tempt_96 : decode cX7_tempt 96 = .ok (.goto 4, 3) := by decide +kernel
theorem dX7_tempt_99 : decode cX7_tempt 99 = .ok (.iconst 0, 1) := by decide +kernel
theorem dX7_tempt_100 : decode cX7_tempt 100 = .ok (.istore 4, 2) := by decide +kernel
theorem dX7_tempt_102 : decode cX7_tempt 102 = .ok (.iinc 5 1, 3) := by decide +kernel
theorem dX7_tempt_105 : decode cX7_tempt 105 = .ok (.goto (-37), 3) := by decide +kernel
theorem dX7_tempt_108 : decode cX7_tempt 108 = .ok (.iload 4, 2) := by decide +kernel
theorem dX7_tempt_110 : decode cX7_tempt 110 = .ok (.ifCond .eq 5, 3) := by decide +kernel
theorem dX7_tempt_113 : decode cX7_tempt 113 = .ok (.iload_n 3, 1) := by decide +kernel
theorem dX7_tempt_114 : decode cX7_tempt 114 = .ok (.ireturn, 1) := by decide +kernel
theorem dX7_tempt_115 : decode cX7_tempt 115 = .ok (.iinc 3 1, 3) := by decide +kernel
theorem dX7_tempt_118 : decode cX7_tempt 118 = .ok (.goto (-95), 3) := by decide +kernel
theorem dX7_tempt_121 : decode cX7_tempt 121 = .ok (.bipush (-4), 2) := by decide +kernel
theorem dX7_tempt_123 : decode cX7_tempt 123 = .ok (.ireturn, 1) := by decide +kernel
theorem dX7_strict_0 : decode cX7_strict 0 = .ok (.iload_n 1, 1) := by decide +kernel
theorem dX7_strict_1 : decode cX7_strict 1 = .ok (.i2l, 1) := by decide +kernel
theorem dX7_strict_2 : decode cX7_strict 2 = .ok (.lconst 1, 1) := by decide +kernel
theorem dX7_strict_3 : decode cX7_strict 3 = .ok (.ldc2_w 201, 3) := by decide +kernel
theorem dX7_strict_6 : decode cX7_strict 6 = .ok (.invokestatic 63, 3) := by decide +kernel
theorem dX7_strict_9 : decode cX7_strict 9 = .ok (.ifCond .ne 5, 3) := by decide +kernel
theorem dX7_strict_12 : decode cX7_strict 12 = .ok (.iconst (-1), 1) := by decide +kernel
theorem dX7_strict_13 : decode cX7_strict 13 = .ok (.ireturn, 1) := by decide +kernel
theorem dX7_strict_14 : decode cX7_strict 14 = .ok (.aload_n 0, 1) := by decide +kernel
theorem dX7_strict_15 : decode cX7_strict 15 = .ok (.getfield 7, 3) := by decide +kernel
theorem dX7_strict_18 : decode cX7_strict 18 = .ok (.istore_n 2, 1) := by decide +kernel
theorem dX7_strict_19 : decode cX7_strict 19 = .ok (.bipush (-4), 2) := by decide +kernel
theorem dX7_strict_21 : decode cX7_strict 21 = .ok (.istore_n 3, 1) := by decide +kernel
theorem dX7_strict_22 : decode cX7_strict 22 = .ok (.aload_n 0, 1) := by decide +kernel
theorem dX7_strict_23 : decode cX7_strict 23 = .ok (.bipush 20, 2) := by decide +kernel
theorem dX7_strict_25 : decode cX7_strict 25 = .ok (.putfield 7, 3) := by decide +kernel
theorem dX7_strict_28 : decode cX7_strict 28 = .ok (.aload_n 0, 1) := by decide +kernel
theorem dX7_strict_29 : decode cX7_strict 29 = .ok (.getfield 7, 3) := by decide +kernel
theorem dX7_strict_32 : decode cX7_strict 32 = .ok (.ifCond .le 58, 3) := by decide +kernel
theorem dX7_strict_35 : decode cX7_strict 35 = .ok (.iload_n 3, 1) := by decide +kernel
theorem dX7_strict_36 : decode cX7_strict 36 = .ok (.bipush (-4), 2) := by decide +kernel
theorem dX7_strict_38 : decode cX7_strict 38 = .ok (.if_icmp .ne 52, 3) := by decide +kernel
theorem dX7_strict_41 : decode cX7_strict 41 = .ok (.aload_n 0, 1) := by decide +kernel
theorem dX7_strict_42 : decode cX7_strict 42 = .ok (.invokevirtual 122, 3) := by decide +kernel
theorem dX7_strict_45 : decode cX7_strict 45 = .ok (.aload_n 0, 1) := by decide +kernel
theorem dX7_strict_46 : decode cX7_strict 46 = .ok (.iload_n 1, 1) := by decide +kernel
theorem dX7_strict_47 : decode cX7_strict 47 = .ok (.invokevirtual 198, 3) := by decide +kernel
theorem dX7_strict_50 : decode cX7_strict 50 = .ok (.aload_n 0, 1) := by decide +kernel
theorem dX7_strict_51 : decode cX7_strict 51 = .ok (.getfield 20, 3) := by decide +kernel
theorem dX7_strict_54 : decode cX7_strict 54 = .ok (.bipush 25, 2) := by decide +kernel
theorem dX7_strict_56 : decode cX7_strict 56 = .ok (.iaload, 1) := by decide +kernel
theorem dX7_strict_57 : decode cX7_strict 57 = .ok (.aload_n 0, 1) := by decide +kernel
theorem dX7_strict_58 : decode cX7_strict 58 = .ok (.getfield 17, 3) := by decide +kernel
theorem dX7_strict_61 : decode cX7_strict 61 = .ok (.bipush 25, 2) := by decide +kernel
theorem dX7_strict_63 : decode cX7_strict 63 = .ok (.iaload, 1) := by decide +kernel
theorem dX7_strict_64 : decode cX7_strict 64 = .ok (.if_icmp .ne 10, 3) := by decide +kernel
theorem dX7_strict_67 : decode cX7_strict 67 = .ok (.aload_n 0, 1) := by decide +kernel
theorem dX7_strict_68 : decode cX7_strict 68 = .ok (.getfield 7, 3) := by decide +kernel
theorem dX7_strict_71 : decode cX7_strict 71 = .ok (.goto 5, 3) := by decide +kernel
theorem dX7_strict_74 : decode cX7_strict 74 = .ok (.bipush (-4), 2) := by decide +kernel
theorem dX7_strict_76 : decode cX7_strict 76 = .ok (.istore_n 3, 1) := by decide +kernel
theorem dX7_strict_77 : decode cX7_strict 77 = .ok (.aload_n 0, 1) := by decide +kernel
theorem dX7_strict_78 : decode cX7_strict 78 = .ok (.dup, 1) := by decide +kernel
theorem dX7_strict_79 : decode cX7_strict 79 = .ok (.getfield 7, 3) := by decide +kernel
theorem dX7_strict_82 : decode cX7_strict 82 = .ok (.iconst 1, 1) := by decide +kernel
theorem dX7_strict_83 : decode cX7_strict 83 = .ok (.isub, 1) := by decide +kernel
theorem dX7_strict_84 : decode cX7_strict 84 = .ok (.putfield 7, 3) := by decide +kernel
theorem dX7_strict_87 : decode cX7_strict 87 = .ok (.goto (-59), 3) := by decide +kernel
theorem dX7_strict_90 : decode cX7_strict 90 = .ok (.aload_n 0, 1) := by decide +kernel
theorem dX7_strict_91 : decode cX7_strict 91 = .ok (.iload_n 2, 1) := by decide +kernel
theorem dX7_strict_92 : decode cX7_strict 92 = .ok (.putfield 7, 3) := by decide +kernel
theorem dX7_strict_95 : decode cX7_strict 95 = .ok (.iload_n 3, 1) := by decide +kernel
theorem dX7_strict_96 : decode cX7_strict 96 = .ok (.ireturn, 1) := by decide +kernel
theorem dX7_yawn_0 : decode cX7_yawn 0 = .ok (.iload_n 1, 1) := by decide +kernel
theorem dX7_yawn_1 : decode cX7_yawn 1 = .ok (.invokestatic 111, 3) := by decide +kernel
theorem dX7_yawn_4 : decode cX7_yawn 4 = .ok (.ifCond .eq 25, 3) := by decide +kernel
theorem dX7_yawn_7 : decode cX7_yawn 7 = .ok (.iload_n 2, 1) := by decide +kernel
theorem dX7_yawn_8 : decode cX7_yawn 8 = .ok (.i2l, 1) := by decide +kernel
theorem dX7_yawn_9 : decode cX7_yawn 9 = .ok (.lconst 0, 1) := by decide +kernel
theorem dX7_yawn_10 : decode cX7_yawn 10 = .ok (.ldc2_w 205, 3) := by decide +kernel
theorem dX7_yawn_13 : decode cX7_yawn 13 = .ok (.invokestatic 63, 3) := by decide +kernel
theorem dX7_yawn_16 : decode cX7_yawn 16 = .ok (.ifCond .eq 13, 3) := by decide +kernel
theorem dX7_yawn_19 : decode cX7_yawn 19 = .ok (.iload_n 3, 1) := by decide +kernel
theorem dX7_yawn_20 : decode cX7_yawn 20 = .ok (.i2l, 1) := by decide +kernel
theorem dX7_yawn_21 : decode cX7_yawn 21 = .ok (.lconst 0, 1) := by decide +kernel
theorem dX7_yawn_22 : decode cX7_yawn 22 = .ok (.lconst 1, 1) := by decide +kernel
theorem dX7_yawn_23 : decode cX7_yawn 23 = .ok (.invokestatic 63, 3) := by decide +kernel
theorem dX7_yawn_26 : decode cX7_yawn 26 = .ok (.ifCond .ne 5, 3) := by decide +kernel
theorem dX7_yawn_29 : decode cX7_yawn 29 = .ok (.iconst (-1), 1) := by decide +kernel
theorem dX7_yawn_30 : decode cX7_yawn 30 = .ok (.ireturn, 1) := by decide +kernel
theorem dX7_yawn_31 : decode cX7_yawn 31 = .ok (.iconst 1, 1) := by decide +kernel
theorem dX7_yawn_32 : decode cX7_yawn 32 = .ok (.istore 4, 2) := by decide +kernel
theorem dX7_yawn_34 : decode cX7_yawn 34 = .ok (.iconst 1, 1) := by decide +kernel
theorem dX7_yawn_35 : decode cX7_yawn 35 = .ok (.istore 5, 2) := by decide +kernel
theorem dX7_yawn_37 : decode cX7_yawn 37 = .ok (.iconst 0, 1) := by decide +kernel
theorem dX7_yawn_38 : decode cX7_yawn 38 = .ok (.istore 6, 2) := by decide +kernel
theorem dX7_yawn_40 : decode cX7_yawn 40 = .ok (.iload 6, 2) := by decide +kernel
theorem dX7_yawn_42 : decode cX7_yawn 42 = .ok (.aload_n 0, 1) := by decide +kernel
theorem dX7_yawn_43 : decode cX7_yawn 43 = .ok (.getfield 60, 3) := by decide +kernel
theorem dX7_yawn_46 : decode cX7_yawn 46 = .ok (.if_icmp .ge 68, 3) := by decide +kernel
theorem dX7_yawn_49 : decode cX7_yawn 49 = .ok (.aload_n 0, 1) := by decide +kernel
theorem dX7_yawn_50 : decode cX7_yawn 50 = .ok (.getfield 17, 3) := by decide +kernel
theorem dX7_yawn_53 : decode cX7_yawn 53 = .ok (.iconst 4, 1) := by decide +kernel
theorem dX7_yawn_54 : decode cX7_yawn 54 = .ok (.iload 6, 2) := by decide +kernel
theorem dX7_yawn_56 : decode cX7_yawn 56 = .ok (.imul, 1) := by decide +kernel
theorem dX7_yawn_57 : decode cX7_yawn 57 = .ok (.iload_n 1, 1) := by decide +kernel
theorem dX7_yawn_58 : decode cX7_yawn 58 = .ok (.iadd, 1) := by decide +kernel
theorem dX7_yawn_59 : decode cX7_yawn 59 = .ok (.iaload, 1) := by decide +kernel
theorem dX7_yawn_60 : decode cX7_yawn 60 = .ok (.aload_n 0, 1) := by decide +kernel
theorem dX7_yawn_61 : decode cX7_yawn 61 = .ok (.getfield 7, 3) := by decide +kernel
theorem dX7_yawn_64 : decode cX7_yawn 64 = .ok (.if_icmp .lt 7, 3) := by decide +kernel
theorem dX7_yawn_67 : decode cX7_yawn 67 = .ok (.iconst 1, 1) := by decide +kernel
theorem dX7_yawn_68 : decode cX7_yawn 68 = .ok (.goto 4, 3) := by decide +kernel
theorem dX7_yawn_71 : decode cX7_yawn 71 = .ok (.iconst 0, 1) := by decide +kernel
theorem dX7_yawn_72 : decode cX7_yawn 72 = .ok (.istore 7, 2) := by decide +kernel
theorem dX7_yawn_74 : decode cX7_yawn 74 = .ok (.iload 4, 2) := by decide +kernel
theorem dX7_yawn_76 : decode cX7_yawn 76 = .ok (.iload 7, 2) := by decide +kernel
theorem dX7_yawn_78 : decode cX7_yawn 78 = .ok (.ifCond .eq 10, 3) := by decide +kernel
theorem dX7_yawn_81 : decode cX7_yawn 81 = .ok (.bipush 10, 2) := by decide +kernel
theorem dX7_yawn_83 : decode cX7_yawn 83 = .ok (.iload_n 2, 1) := by decide +kernel
theorem dX7_yawn_84 : decode cX7_yawn 84 = .ok (.isub, 1) := by decide +kernel
theorem dX7_yawn_85 : decode cX7_yawn 85 = .ok (.goto 4, 3) := by decide +kernel
theorem dX7_yawn_88 : decode cX7_yawn 88 = .ok (.iconst 1, 1) := by decide +kernel
theorem dX7_yawn_89 : decode cX7_yawn 89 = .ok (.imul, 1) := by decide +kernel
theorem dX7_yawn_90 : decode cX7_yawn 90 = .ok (.istore 4, 2) := by decide +kernel
theorem dX7_yawn_92 : decode cX7_yawn 92 = .ok (.iload 5, 2) := by decide +kernel
theorem dX7_yawn_94 : decode cX7_yawn 94 = .ok (.iload 7, 2) := by decide +kernel
theorem dX7_yawn_96 : decode cX7_yawn 96 = .ok (.ifCond .eq 8, 3) := by decide +kernel
theorem dX7_yawn_99 : decode cX7_yawn 99 = .ok (.bipush 10, 2) := by decide +kernel
theorem dX7_yawn_101 : decode cX7_yawn 101 = .ok (.goto 4, 3) := by decide +kernel
theorem dX7_yawn_104 : decode cX7_yawn 104 = .ok (.iconst 1, 1) := by decide +kernel
theorem dX7_yawn_105 : decode cX7_yawn 105 = .ok (.imul, 1) := by decide +kernel
theorem dX7_yawn_106 : decode cX7_yawn 106 = .ok (.istore 5, 2) := by decide +kernel
theorem dX7_yawn_108 : decode cX7_yawn 108 = .ok (.iinc 6 1, 3) := by decide +kernel
theorem dX7_yawn_111 : decode cX7_yawn 111 = .ok (.goto (-71), 3) := by decide +kernel
theorem dX7_yawn_114 : decode cX7_yawn 114 = .ok (.iload 4, 2) := by decide +kernel
theorem dX7_yawn_116 : decode cX7_yawn 116 = .ok (.istore 6, 2) := by decide +kernel
theorem dX7_yawn_118 : decode cX7_yawn 118 = .ok (.iload 5, 2) := by decide +kernel
theorem dX7_yawn_120 : decode cX7_yawn 120 = .ok (.istore 7, 2) := by decide +kernel
theorem dX7_yawn_122 : decode cX7_yawn 122 = .ok (.iload 7, 2) := by decide +kernel
theorem dX7_yawn_124 : decode cX7_yawn 124 = .ok (.ifCond .eq 21, 3) := by decide +kernel
theorem dX7_yawn_127 : decode cX7_yawn 127 = .ok (.iload 6, 2) := by decide +kernel
theorem dX7_yawn_129 : decode cX7_yawn 129 = .ok (.iload 7, 2) := by decide +kernel
theorem dX7_yawn_131 : decode cX7_yawn 131 = .ok (.irem, 1) := by decide +kernel
theorem dX7_yawn_132 : decode cX7_yawn 132 = .ok (.istore 8, 2) := by decide +kernel
theorem dX7_yawn_134 : decode cX7_yawn 134 = .ok (.iload 7, 2) := by decide +kernel
theorem dX7_yawn_136 : decode cX7_yawn 136 = .ok (.istore 6, 2) := by decide +kernel
theorem dX7_yawn_138 : decode cX7_yawn 138 = .ok (.iload 8, 2) := by decide +kernel
theorem dX7_yawn_140 : decode cX7_yawn 140 = .ok (.istore 7, 2) := by decide +kernel
theorem dX7_yawn_142 : decode cX7_yawn 142 = .ok (.goto (-20), 3) := by decide +kernel
theorem dX7_yawn_145 : decode cX7_yawn 145 = .ok (.iload_n 3, 1) := by decide +kernel
theorem dX7_yawn_146 : decode cX7_yawn 146 = .ok (.ifCond .ne 11, 3) := by decide +kernel
theorem dX7_yawn_149 : decode cX7_yawn 149 = .ok (.iload 4, 2) := by decide +kernel
theorem dX7_yawn_151 : decode cX7_yawn 151 = .ok (.iload 6, 2) := by decide +kernel
theorem dX7_yawn_153 : decode cX7_yawn 153 = .ok (.idiv, 1) := by decide +kernel
theorem dX7_yawn_154 : decode cX7_yawn 154 = .ok (.goto 8, 3) := by decide +kernel
theorem dX7_yawn_157 : decode cX7_yawn 157 = .ok (.iload 5, 2) := by decide +kernel
theorem dX7_yawn_159 : decode cX7_yawn 159 = .ok (.iload 6, 2) := by decide +kernel
theorem dX7_yawn_161 : decode cX7_yawn 161 = .ok (.idiv, 1) := by decide +kernel
theorem dX7_yawn_162 : decode cX7_yawn 162 = .ok (.ireturn, 1) := by decide +kernel
theorem dX7_image_0 : decode cX7_image 0 = .ok (.aload_n 0, 1) := by decide +kernel
theorem dX7_image_1 : decode cX7_image 1 = .ok (.getfield 26, 3) := by decide +kernel
theorem dX7_image_4 : decode cX7_image 4 = .ok (.iconst 0, 1) := by decide +kernel
theorem dX7_image_5 : decode cX7_image 5 = .ok (.aload_n 0, 1) := by decide +kernel
theorem dX7_image_6 : decode cX7_image 6 = .ok (.getfield 60, 3) := by decide +kernel
theorem dX7_image_9 : decode cX7_image 9 = .ok (.iastore, 1) := by decide +kernel
theorem dX7_image_10 : decode cX7_image 10 = .ok (.aload_n 0, 1) := by decide +kernel
theorem dX7_image_11 : decode cX7_image 11 = .ok (.getfield 26, 3) := by decide +kernel
theorem dX7_image_14 : decode cX7_image 14 = .ok (.iconst 1, 1) := by decide +kernel
theorem dX7_image_15 : decode cX7_image 15 = .ok (.aload_n 0, 1) := by decide +kernel
theorem dX7_image_16 : decode cX7_image 16 = .ok (.getfield 7, 3) := by decide +kernel
theorem dX7_image_19 : decode cX7_image 19 = .ok (.iastore, 1) := by decide +kernel
theorem dX7_image_20 : decode cX7_image 20 = .ok (.aload_n 0, 1) := by decide +kernel
theorem dX7_image_21 : decode cX7_image 21 = .ok (.getfield 26, 3) := by decide +kernel
theorem dX7_image_24 : decode cX7_image 24 = .ok (.iconst 2, 1) := by decide +kernel
theorem dX7_image_25 : decode cX7_image 25 = .ok (.aload_n 0, 1) := by decide +kernel
theorem dX7_image_26 : decode cX7_image 26 = .ok (.getfield 104, 3) := by decide +kernel
theorem dX7_image_29 : decode cX7_image 29 = .ok (.iastore, 1) := by decide +kernel
theorem dX7_image_30 : decode cX7_image 30 = .ok (.iconst 0, 1) := by decide +kernel
theorem dX7_image_31 : decode cX7_image 31 = .ok (.istore_n 1, 1) := by decide +kernel
theorem dX7_image_32 : decode cX7_image 32 = .ok (.iload_n 1, 1) := by decide +kernel
theorem dX7_image_33 : decode cX7_image 33 = .ok (.iconst 5, 1) := by decide +kernel
theorem dX7_image_34 : decode cX7_image 34 = .ok (.if_icmp .ge 23, 3) := by decide +kernel
theorem dX7_image_37 : decode cX7_image 37 = .ok (.aload_n 0, 1) := by decide +kernel
theorem dX7_image_38 : decode cX7_image 38 = .ok (.getfield 26, 3) := by decide +kernel
theorem dX7_image_41 : decode cX7_image 41 = .ok (.iconst 3, 1) := by decide +kernel
theorem dX7_image_42 : decode cX7_image 42 = .ok (.iload_n 1, 1) := by decide +kernel
theorem dX7_image_43 : decode cX7_image 43 = .ok (.iadd, 1) := by decide +kernel
theorem dX7_image_44 : decode cX7_image 44 = .ok (.aload_n 0, 1) := by decide +kernel
theorem dX7_image_45 : decode cX7_image 45 = .ok (.getfield 13, 3) := by decide +kernel
theorem dX7_image_48 : decode cX7_image 48 = .ok (.iload_n 1, 1) := by decide +kernel
theorem dX7_image_49 : decode cX7_image 49 = .ok (.iaload, 1) := by decide +kernel
theorem dX7_image_50 : decode cX7_image 50 = .ok (.iastore, 1) := by decide +kernel
theorem dX7_image_51 : decode cX7_image 51 = .ok (.iinc 1 1, 3) := by decide +kernel
theorem dX7_image_54 : decode cX7_image 54 = .ok (.goto (-22), 3) := by decide +kernel
theorem dX7_image_57 : decode cX7_image 57 = .ok (.iconst 0, 1) := by decide +kernel
theorem dX7_image_58 : decode cX7_image 58 = .ok (.istore_n 1, 1) := by decide +kernel
theorem dX7_image_59 : decode cX7_image 59 = .ok (.iload_n 1, 1) := by decide +kernel
theorem dX7_image_60 : decode cX7_image 60 = .ok (.bipush 27, 2) := by decide +kernel
theorem dX7_image_62 : decode cX7_image 62 = .ok (.if_icmp .ge 21, 3) := by decide +kernel
theorem dX7_image_65 : decode cX7_image 65 = .ok (.aload_n 0, 1) := by decide +kernel
theorem dX7_image_66 : decode cX7_image 66 = .ok (.getfield 29, 3) := by decide +kernel
theorem dX7_image_69 : decode cX7_image 69 = .ok (.iload_n 1, 1) := by decide +kernel
theorem dX7_image_70 : decode cX7_image 70 = .ok (.aload_n 0, 1) := by decide +kernel
theorem dX7_image_71 : decode cX7_image 71 = .ok (.getfield 17, 3) := by decide +kernel
theorem dX7_image_74 : decode cX7_image 74 = .ok (.iload_n 1, 1) := by decide +kernel
theorem dX7_image_75 : decode cX7_image 75 = .ok (.iaload, 1) := by decide +kernel
theorem dX7_image_76 : decode cX7_image 76 = .ok (.iastore, 1) := by decide +kernel
theorem dX7_image_77 : decode cX7_image 77 = .ok (.iinc 1 1, 3) := by decide +kernel
theorem dX7_image_80 : decode cX7_image 80 = .ok (.goto (-21), 3) := by decide +kernel
theorem dX7_image_83 : decode cX7_image 83 = .ok (.iconst 0, 1) := by decide +kernel
theorem dX7_image_84 : decode cX7_image 84 = .ok (.istore_n 1, 1) := by decide +kernel
theorem dX7_image_85 : decode cX7_image 85 = .ok (.iload_n 1, 1) := by decide +kernel
theorem dX7_image_86 : decode cX7_image 86 = .ok (.sipush 216, 3) := by decide +kernel
theorem dX7_image_89 : decode cX7_image 89 = .ok (.if_icmp .ge 21, 3) := by decide +kernel
theorem dX7_image_92 : decode cX7_image 92 = .ok (.aload_n 0, 1) := by decide +kernel
theorem dX7_image_93 : decode cX7_image 93 = .ok (.getfield 32, 3) := by decide +kernel
theorem dX7_image_96 : decode cX7_image 96 = .ok (.iload_n 1, 1) := by decide +kernel
theorem dX7_image_97 : decode cX7_image 97 = .ok (.aload_n 0, 1) := by decide +kernel
theorem dX7_image_98 : decode cX7_image 98 = .ok (.getfield 23, 3) := by decide +kernel
theorem dX7_image_101 : decode cX7_image 101 = .ok (.iload_n 1, 1) := by decide +kernel
theorem dX7_image_102 : decode cX7_image 102 = .ok (.iaload, 1) := by decide +kernel
theorem dX7_image_103 : decode cX7_image 103 = .ok (.iastore, 1) := by decide +kernel
theorem dX7_image_104 : decode cX7_image 104 = .ok (.iinc 1 1, 3) := by decide +kernel
theorem dX7_image_107 : decode cX7_image 107 = .ok (.goto (-22), 3) := by decide +kernel
theorem dX7_image_110 : decode cX7_image 110 = .ok (.aload_n 0, 1) := by decide +kernel
theorem dX7_image_111 : decode cX7_image 111 = .ok (.iconst 1, 1) := by decide +kernel
theorem dX7_image_112 : decode cX7_image 112 = .ok (.putfield 207, 3) := by decide +kernel
theorem dX7_image_115 : decode cX7_image 115 = .ok (.iconst 1, 1) := by decide +kernel
theorem dX7_image_116 : decode cX7_image 116 = .ok (.ireturn, 1) := by decide +kernel
theorem dX7_restore_0 : decode cX7_restore 0 = .ok (.aload_n 0, 1) := by decide +kernel
theorem dX7_restore_1 : decode cX7_restore 1 = .ok (.getfield 207, 3) := by decide +kernel
theorem dX7_restore_4 : decode cX7_restore 4 = .ok (.ifCond .ne 6, 3) := by decide +kernel
theorem dX7_restore_7 : decode cX7_restore 7 = .ok (.bipush (-4), 2) := by decide +kernel
theorem dX7_restore_9 : decode cX7_restore 9 = .ok (.ireturn, 1) := by decide +kernel
theorem dX7_restore_10 : decode cX7_restore 10 = .ok (.aload_n 0, 1) := by decide +kernel
theorem dX7_restore_11 : decode cX7_restore 11 = .ok (.aload_n 0, 1) := by decide +kernel
theorem dX7_restore_12 : decode cX7_restore 12 = .ok (.getfield 26, 3) := by decide +kernel
theorem dX7_restore_15 : decode cX7_restore 15 = .ok (.iconst 0, 1) := by decide +kernel
theorem dX7_restore_16 : decode cX7_restore 16 = .ok (.iaload, 1) := by decide +kernel
theorem dX7_restore_17 : decode cX7_restore 17 = .ok (.putfield 60, 3) := by decide +kernel
theorem dX7_restore_20 : decode cX7_restore 20 = .ok (.aload_n 0, 1) := by decide +kernel
theorem dX7_restore_21 : decode cX7_restore 21 = .ok (.aload_n 0, 1) := by decide +kernel
theorem dX7_restore_22 : decode cX7_restore 22 = .ok (.getfield 26, 3) := by decide +kernel
theorem dX7_restore_25 : decode cX7_restore 25 = .ok (.iconst 1, 1) := by decide +kernel
theorem dX7_restore_26 : decode cX7_restore 26 = .ok (.iaload, 1) := by decide +kernel
theorem dX7_restore_27 : decode cX7_restore 27 = .ok (.putfield 7, 3) := by decide +kernel
theorem dX7_restore_30 : decode cX7_restore 30 = .ok (.aload_n 0, 1) := by decide +kernel
theorem dX7_restore_31 : decode cX7_restore 31 = .ok (.aload_n 0, 1) := by decide +kernel
theorem dX7_restore_32 : decode cX7_restore 32 = .ok (.getfield 26, 3) := by decide +kernel
theorem dX7_restore_35 : decode cX7_restore 35 = .ok (.iconst 2, 1) := by decide +kernel
theorem dX7_restore_36 : decode cX7_restore 36 = .ok (.iaload, 1) := by decide +kernel
theorem dX7_restore_37 : decode cX7_restore 37 = .ok (.putfield 104, 3) := by decide +kernel
theorem dX7_restore_40 : decode cX7_restore 40 = .ok (.iconst 0, 1) := by decide +kernel
theorem dX7_restore_41 : decode cX7_restore 41 = .ok (.istore_n 1, 1) := by decide +kernel
theorem dX7_restore_42 : decode cX7_restore 42 = .ok (.iload_n 1, 1) := by decide +kernel
theorem dX7_restore_43 : decode cX7_restore 43 = .ok (.iconst 5, 1) := by decide +kernel
theorem dX7_restore_44 : decode cX7_restore 44 = .ok (.if_icmp .ge 23, 3) := by decide +kernel
theorem dX7_restore_47 : decode cX7_restore 47 = .ok (.aload_n 0, 1) := by decide +kernel
theorem dX7_restore_48 : decode cX7_restore 48 = .ok (.getfield 13, 3) := by decide +kernel
theorem dX7_restore_51 : decode cX7_restore 51 = .ok (.iload_n 1, 1) := by decide +kernel
theorem dX7_restore_52 : decode cX7_restore 52 = .ok (.aload_n 0, 1) := by decide +kernel
theorem dX7_restore_53 : decode cX7_restore 53 = .ok (.getfield 26, 3) := by decide +kernel
theorem dX7_restore_56 : decode cX7_restore 56 = .ok (.iconst 3, 1) := by decide +kernel
theorem dX7_restore_57 : decode cX7_restore 57 = .ok (.iload_n 1, 1) := by decide +kernel
theorem dX7_restore_58 : decode cX7_restore 58 = .ok (.iadd, 1) := by decide +kernel
theorem dX7_restore_59 : decode cX7_restore 59 = .ok (.iaload, 1) := by decide +kernel
theorem dX7_restore_60 : decode cX7_restore 60 = .ok (.iastore, 1) := by decide +kernel
theorem dX7_restore_61 : decode cX7_restore 61 = .ok (.iinc 1 1, 3) := by decide +kernel
theorem dX7_restore_64 : decode cX7_restore 64 = .ok (.goto (-22), 3) := by decide +kernel
theorem dX7_restore_67 : decode cX7_restore 67 = .ok (.iconst 0, 1) := by decide +kernel
theorem dX7_restore_68 : decode cX7_restore 68 = .ok (.istore_n 1, 1) := by decide +kernel
theorem dX7_restore_69 : decode cX7_restore 69 = .ok (.iload_n 1, 1) := by decide +kernel
theorem dX7_restore_70 : decode cX7_restore 70 = .ok (.bipush 27, 2) := by decide +kernel
theorem dX7_restore_72 : decode cX7_restore 72 = .ok (.if_icmp .ge 21, 3) := by decide +kernel
theorem dX7_restore_75 : decode cX7_restore 75 = .ok (.aload_n 0, 1) := by decide +kernel
theorem dX7_restore_76 : decode cX7_restore 76 = .ok (.getfield 17, 3) := by decide +kernel
theorem dX7_restore_79 : decode cX7_restore 79 = .ok (.iload_n 1, 1) := by decide +kernel
theorem dX7_restore_80 : decode cX7_restore 80 = .ok (.aload_n 0, 1) := by decide +kernel
theorem dX7_restore_81 : decode cX7_restore 81 = .ok (.getfield 29, 3) := by decide +kernel
theorem dX7_restore_84 : decode cX7_restore 84 = .ok (.iload_n 1, 1) := by decide +kernel
theorem dX7_restore_85 : decode cX7_restore 85 = .ok (.iaload, 1) := by decide +kernel
theorem dX7_restore_86 : decode cX7_restore 86 = .ok (.iastore, 1) := by decide +kernel
theorem dX7_restore_87 : decode cX7_restore 87 = .ok (.iinc 1 1, 3) := by decide +kernel
theorem dX7_restore_90 : decode cX7_restore 90 = .ok (.goto (-21), 3) := by decide +kernel
theorem dX7_restore_93 : decode cX7_restore 93 = .ok (.iconst 0, 1) := by decide +kernel
theorem dX7_restore_94 : decode cX7_restore 94 = .ok (.istore_n 1, 1) := by decide +kernel
theorem dX7_restore_95 : decode cX7_restore 95 = .ok (.iload_n 1, 1) := by decide +kernel
theorem dX7_restore_96 : decode cX7_restore 96 = .ok (.sipush 216, 3) := by decide +kernel
theorem dX7_restore_99 : decode cX7_restore 99 = .ok (.if_icmp .ge 21, 3) := by decide +kernel
theorem dX7_restore_102 : decode cX7_restore 102 = .ok (.aload_n 0, 1) := by decide +kernel
theorem dX7_restore_103 : decode cX7_restore 103 = .ok (.getfield 23, 3) := by decide +kernel
theorem dX7_restore_106 : decode cX7_restore 106 = .ok (.iload_n 1, 1) := by decide +kernel
theorem dX7_restore_107 : decode cX7_restore 107 = .ok (.aload_n 0, 1) := by decide +kernel
theorem dX7_restore_108 : decode cX7_restore 108 = .ok (.getfield 32, 3) := by decide +kernel
theorem dX7_restore_111 : decode cX7_restore 111 = .ok (.iload_n 1, 1) := by decide +kernel
theorem dX7_restore_112 : decode cX7_restore 112 = .ok (.iaload, 1) := by decide +kernel
theorem dX7_restore_113 : decode cX7_restore 113 = .ok (.iastore, 1) := by decide +kernel
theorem dX7_restore_114 : decode cX7_restore 114 = .ok (.iinc 1 1, 3) := by decide +kernel
theorem dX7_restore_117 : decode cX7_restore 117 = .ok (.goto (-22), 3) := by decide +kernel
theorem dX7_restore_120 : decode cX7_restore 120 = .ok (.iconst 1, 1) := by decide +kernel
theorem dX7_restore_121 : decode cX7_restore 121 = .ok (.ireturn, 1) := by decide +kernel
theorem dX7_isSheet_0 : decode cX7_isSheet 0 = .ok (.iload_n 0, 1) := by decide +kernel
theorem dX7_isSheet_1 : decode cX7_isSheet 1 = .ok (.i2l, 1) := by decide +kernel
theorem dX7_isSheet_2 : decode cX7_isSheet 2 = .ok (.lconst 0, 1) := by decide +kernel
theorem dX7_isSheet_3 : decode cX7_isSheet 3 = .ok (.ldc2_w 67, 3) := by decide +kernel
theorem dX7_isSheet_6 : decode cX7_isSheet 6 = .ok (.invokestatic 63, 3) := by decide +kernel
theorem dX7_isSheet_9 : decode cX7_isSheet 9 = .ok (.ireturn, 1) := by decide +kernel
theorem dX7_isLane_0 : decode cX7_isLane 0 = .ok (.iload_n 0, 1) := by decide +kernel
theorem dX7_isLane_1 : decode cX7_isLane 1 = .ok (.i2l, 1) := by decide +kernel
theorem dX7_isLane_2 : decode cX7_isLane 2 = .ok (.lconst 0, 1) := by decide +kernel
theorem dX7_isLane_3 : decode cX7_isLane 3 = .ok (.ldc2_w 67, 3) := by decide +kernel
theorem dX7_isLane_6 : decode cX7_isLane 6 = .ok (.invokestatic 63, 3) := by decide +kernel
theorem dX7_isLane_9 : decode cX7_isLane 9 = .ok (.ireturn, 1) := by decide +kernel
theorem dX7_isSpan_0 : decode cX7_isSpan 0 = .ok (.iload_n 2, 1) := by decide +kernel
theorem dX7_isSpan_1 : decode cX7_isSpan 1 = .ok (.ifCond .lt 27, 3) := by decide +kernel
theorem dX7_isSpan_4 : decode cX7_isSpan 4 = .ok (.iload_n 3, 1) := by decide +kernel
theorem dX7_isSpan_5 : decode cX7_isSpan 5 = .ok (.ifCond .lt 23, 3) := by decide +kernel
theorem dX7_isSpan_8 : decode cX7_isSpan 8 = .ok (.iload_n 2, 1) := by decide +kernel
theorem dX7_isSpan_9 : decode cX7_isSpan 9 = .ok (.i2l, 1) := by decide +kernel
theorem dX7_isSpan_10 : decode cX7_isSpan 10 = .ok (.iload_n 3, 1) := by decide +kernel
theorem dX7_isSpan_11 : decode cX7_isSpan 11 = .ok (.i2l, 1) := by decide +kernel
theorem dX7_isSpan_12 : decode cX7_isSpan 12 = .ok (.ladd, 1) := by decide +kernel
theorem dX7_isSpan_13 : decode cX7_isSpan 13 = .ok (.aload_n 0, 1) := by decide +kernel
theorem dX7_isSpan_14 : decode cX7_isSpan 14 = .ok (.getfield 42, 3) := by decide +kernel
theorem dX7_isSpan_17 : decode cX7_isSpan 17 = .ok (.iload_n 1, 1) := by decide +kernel
theorem dX7_isSpan_18 : decode cX7_isSpan 18 = .ok (.iaload, 1) := by decide +kernel
theorem dX7_isSpan_19 : decode cX7_isSpan 19 = .ok (.i2l, 1) := by decide +kernel
theorem dX7_isSpan_20 : decode cX7_isSpan 20 = .ok (.lcmp, 1) := by decide +kernel
theorem dX7_isSpan_21 : decode cX7_isSpan 21 = .ok (.ifCond .gt 7, 3) := by decide +kernel
theorem dX7_isSpan_24 : decode cX7_isSpan 24 = .ok (.iconst 1, 1) := by decide +kernel
theorem dX7_isSpan_25 : decode cX7_isSpan 25 = .ok (.goto 4, 3) := by decide +kernel
theorem dX7_isSpan_28 : decode cX7_isSpan 28 = .ok (.iconst 0, 1) := by decide +kernel
theorem dX7_isSpan_29 : decode cX7_isSpan 29 = .ok (.ireturn, 1) := by decide +kernel
theorem dX7_lacks_0 : decode cX7_lacks 0 = .ok (.aload_n 0, 1) := by decide +kernel
theorem dX7_lacks_1 : decode cX7_lacks 1 = .ok (.getfield 42, 3) := by decide +kernel
theorem dX7_lacks_4 : decode cX7_lacks 4 = .ok (.iload_n 1, 1) := by decide +kernel
theorem dX7_lacks_5 : decode cX7_lacks 5 = .ok (.iaload, 1) := by decide +kernel
theorem dX7_lacks_6 : decode cX7_lacks 6 = .ok (.ifCond .ge 8, 3) := by decide +kernel
theorem dX7_lacks_9 : decode cX7_lacks 9 = .ok (.bipush (-11), 2) := by decide +kernel
theorem dX7_lacks_11 : decode cX7_lacks 11 = .ok (.goto 35, 3) := by decide +kernel
theorem dX7_lacks_14 : decode cX7_lacks 14 = .ok (.aload_n 0, 1) := by decide +kernel
theorem dX7_lacks_15 : decode cX7_lacks 15 = .ok (.getfield 39, 3) := by decide +kernel
theorem dX7_lacks_18 : decode cX7_lacks 18 = .ok (.iload_n 1, 1) := by decide +kernel
theorem dX7_lacks_19 : decode cX7_lacks 19 = .ok (.iaload, 1) := by decide +kernel
theorem dX7_lacks_20 : decode cX7_lacks 20 = .ok (.iload_n 2, 1) := by decide +kernel
theorem dX7_lacks_21 : decode cX7_lacks 21 = .ok (.if_icmp .eq 8, 3) := by decide +kernel
theorem dX7_lacks_24 : decode cX7_lacks 24 = .ok (.bipush (-12), 2) := by decide +kernel
theorem dX7_lacks_26 : decode cX7_lacks 26 = .ok (.goto 20, 3) := by decide +kernel
theorem dX7_lacks_29 : decode cX7_lacks 29 = .ok (.aload_n 0, 1) := by decide +kernel
theorem dX7_lacks_30 : decode cX7_lacks 30 = .ok (.iload_n 1, 1) := by decide +kernel
theorem dX7_lacks_31 : decode cX7_lacks 31 = .ok (.iload_n 3, 1) := by decide +kernel
theorem dX7_lacks_32 : decode cX7_lacks 32 = .ok (.iload 4, 2) := by decide +kernel
theorem dX7_lacks_34 : decode cX7_lacks 34 = .ok (.invokevirtual 211, 3) := by decide +kernel
theorem dX7_lacks_37 : decode cX7_lacks 37 = .ok (.ifCond .eq 7, 3) := by decide +kernel
theorem dX7_lacks_40 : decode cX7_lacks 40 = .ok (.iconst 0, 1) := by decide +kernel
theorem dX7_lacks_41 : decode cX7_lacks 41 = .ok (.goto 5, 3) := by decide +kernel
theorem dX7_lacks_44 : decode cX7_lacks 44 = .ok (.bipush (-13), 2) := by decide +kernel
theorem dX7_lacks_46 : decode cX7_lacks 46 = .ok (.ireturn, 1) := by decide +kernel
theorem dX7_isTold_0 : decode cX7_isTold 0 = .ok (.iconst 1, 1) := by decide +kernel
theorem dX7_isTold_1 : decode cX7_isTold 1 = .ok (.istore 6, 2) := by decide +kernel
theorem dX7_isTold_3 : decode cX7_isTold 3 = .ok (.iconst 0, 1) := by decide +kernel
theorem dX7_isTold_4 : decode cX7_isTold 4 = .ok (.istore 7, 2) := by decide +kernel
theorem dX7_isTold_6 : decode cX7_isTold 6 = .ok (.iload 7, 2) := by decide +kernel
theorem dX7_isTold_8 : decode cX7_isTold 8 = .ok (.iload 5, 2) := by decide +kernel
theorem dX7_isTold_10 : decode cX7_isTold 10 = .ok (.if_icmp .ge 55, 3) := by decide +kernel
theorem dX7_isTold_13 : decode cX7_isTold 13 = .ok (.aload_n 0, 1) := by decide +kernel
theorem dX7_isTold_14 : decode cX7_isTold 14 = .ok (.invokevirtual 97, 3) := by decide +kernel
theorem dX7_isTold_17 : decode cX7_isTold 17 = .ok (.iload 6, 2) := by decide +kernel
theorem dX7_isTold_19 : decode cX7_isTold 19 = .ok (.ifCond .eq 37, 3) := by decide +kernel
theorem dX7_isTold_22 : decode cX7_isTold 22 = .ok (.aload_n 0, 1) := by decide +kernel
theorem dX7_isTold_23 : decode cX7_isTold 23 = .ok (.getfield 35, 3) := by decide +kernel
theorem dX7_isTold_26 : decode cX7_isTold 26 = .ok (.bipush 24, 2) := by decide +kernel
theorem dX7_isTold_28 : decode cX7_isTold 28 = .ok (.iload_n 3, 1) := by decide +kernel
theorem dX7_isTold_29 : decode cX7_isTold 29 = .ok (.imul, 1) := by decide +kernel
theorem dX7_isTold_30 : decode cX7_isTold 30 = .ok (.iload 4, 2) := by decide +kernel
theorem dX7_isTold_32 : decode cX7_isTold 32 = .ok (.iadd, 1) := by decide +kernel
theorem dX7_isTold_33 : decode cX7_isTold 33 = .ok (.iload 7, 2) := by decide +kernel
theorem dX7_isTold_35 : decode cX7_isTold 35 = .ok (.iadd, 1) := by decide +kernel
theorem dX7_isTold_36 : decode cX7_isTold 36 = .ok (.laload, 1) := by decide +kernel
theorem dX7_isTold_37 : decode cX7_isTold 37 = .ok (.aload_n 0, 1) := by decide +kernel
theorem dX7_isTold_38 : decode cX7_isTold 38 = .ok (.getfield 20, 3) := by decide +kernel
theorem dX7_isTold_41 : decode cX7_isTold 41 = .ok (.iconst 4, 1) := by decide +kernel
theorem dX7_isTold_42 : decode cX7_isTold 42 = .ok (.iload_n 1, 1) := by decide +kernel
theorem dX7_isTold_43 : decode cX7_isTold 43 = .ok (.imul, 1) := by decide +kernel
theorem dX7_isTold_44 : decode cX7_isTold 44 = .ok (.iload_n 2, 1) := by decide +kernel
theorem dX7_isTold_45 : decode cX7_isTold 45 = .ok (.iadd, 1) := by decide +kernel
theorem dX7_isTold_46 : decode cX7_isTold 46 = .ok (.iaload, 1) := by decide +kernel
theorem dX7_isTold_47 : decode cX7_isTold 47 = .ok (.i2l, 1) := by decide +kernel
theorem dX7_isTold_48 : decode cX7_isTold 48 = .ok (.lcmp, 1) := by decide +kernel
theorem dX7_isTold_49 : decode cX7_isTold 49 = .ok (.ifCond .ne 7, 3) := by decide +kernel
theorem dX7_isTold_52 : decode cX7_isTold 52 = .ok (.iconst 1, 1) := by decide +kernel
theorem dX7_isTold_53 : decode cX7_isTold 53 = .ok (.goto 4, 3) := by decide +kernel
theorem dX7_isTold_56 : decode cX7_isTold 56 = .ok (.iconst 0, 1) := by decide +kernel
theorem dX7_isTold_57 : decode cX7_isTold 57 = .ok (.istore 6, 2) := by decide +kernel
theorem dX7_isTold_59 : decode cX7_isTold 59 = .ok (.iinc 7 1, 3) := by decide +kernel
theorem dX7_isTold_62 : decode cX7_isTold 62 = .ok (.goto (-56), 3) := by decide +kernel
theorem dX7_isTold_65 : decode cX7_isTold 65 = .ok (.iload 6, 2) := by decide +kernel
theorem dX7_isTold_67 : decode cX7_isTold 67 = .ok (.ireturn, 1) := by decide +kernel
theorem dX7_toldKinds_0 : decode cX7_toldKinds 0 = .ok (.iconst 0, 1) := by decide +kernel
theorem dX7_toldKinds_1 : decode cX7_toldKinds 1 = .ok (.istore 6, 2) := by decide +kernel
theorem dX7_toldKinds_3 : decode cX7_toldKinds 3 = .ok (.aload_n 0, 1) := by decide +kernel
theorem dX7_toldKinds_4 : decode cX7_toldKinds 4 = .ok (.iload_n 1, 1) := by decide +kernel
theorem dX7_toldKinds_5 : decode cX7_toldKinds 5 = .ok (.putfield 48, 3) := by decide +kernel
theorem dX7_toldKinds_8 : decode cX7_toldKinds 8 = .ok (.aload_n 0, 1) := by decide +kernel
theorem dX7_toldKinds_9 : decode cX7_toldKinds 9 = .ok (.iconst 0, 1) := by decide +kernel
theorem dX7_toldKinds_10 : decode cX7_toldKinds 10 = .ok (.putfield 69, 3) := by decide +kernel
theorem dX7_toldKinds_13 : decode cX7_toldKinds 13 = .ok (.aload_n 0, 1) := by decide +kernel
theorem dX7_toldKinds_14 : decode cX7_toldKinds 14 = .ok (.getfield 69, 3) := by decide +kernel
theorem dX7_toldKinds_17 : decode cX7_toldKinds 17 = .ok (.iconst 5, 1) := by decide +kernel
theorem dX7_toldKinds_18 : decode cX7_toldKinds 18 = .ok (.if_icmp .ge 49, 3) := by decide +kernel
theorem dX7_toldKinds_21 : decode cX7_toldKinds 21 = .ok (.aload_n 0, 1) := by decide +kernel
theorem dX7_toldKinds_22 : decode cX7_toldKinds 22 = .ok (.invokevirtual 122, 3) := by decide +kernel
theorem dX7_toldKinds_25 : decode cX7_toldKinds 25 = .ok (.iload 6, 2) := by decide +kernel
theorem dX7_toldKinds_27 : decode cX7_toldKinds 27 = .ok (.aload_n 0, 1) := by decide +kernel
theorem dX7_toldKinds_28 : decode cX7_toldKinds 28 = .ok (.iload_n 1, 1) := by decide +kernel
theorem dX7_toldKinds_29 : decode cX7_toldKinds 29 = .ok (.iload_n 2, 1) := by decide +kernel
theorem dX7_toldKinds_30 : decode cX7_toldKinds 30 = .ok (.iload_n 3, 1) := by decide +kernel
theorem dX7_toldKinds_31 : decode cX7_toldKinds 31 = .ok (.iload 4, 2) := by decide +kernel
theorem dX7_toldKinds_33 : decode cX7_toldKinds 33 = .ok (.iload 5, 2) := by decide +kernel
theorem dX7_toldKinds_35 : decode cX7_toldKinds 35 = .ok (.invokevirtual 215, 3) := by decide +kernel
theorem dX7_toldKinds_38 : decode cX7_toldKinds 38 = .ok (.ifCond .eq 12, 3) := by decide +kernel
theorem dX7_toldKinds_41 : decode cX7_toldKinds 41 = .ok (.iconst 1, 1) := by decide +kernel
theorem dX7_toldKinds_42 : decode cX7_toldKinds 42 = .ok (.aload_n 0, 1) := by decide +kernel
theorem dX7_toldKinds_43 : decode cX7_toldKinds 43 = .ok (.getfield 69, 3) := by decide +kernel
theorem dX7_toldKinds_46 : decode cX7_toldKinds 46 = .ok (.ishl, 1) := by decide +kernel
theorem dX7_toldKinds_47 : decode cX7_toldKinds 47 = .ok (.goto 4, 3) := by decide +kernel
theorem dX7_toldKinds_50 : decode cX7_toldKinds 50 = .ok (.iconst 0, 1) := by decide +kernel
theorem dX7_toldKinds_51 : decode cX7_toldKinds 51 = .ok (.ior, 1) := by decide +kernel
theorem dX7_toldKinds_52 : decode cX7_toldKinds 52 = .ok (.istore 6, 2) := by decide +kernel
theorem dX7_toldKinds_54 : decode cX7_toldKinds 54 = .ok (.aload_n 0, 1) := by decide +kernel
theorem dX7_toldKinds_55 : decode cX7_toldKinds 55 = .ok (.dup, 1) := by decide +kernel
theorem dX7_toldKinds_56 : decode cX7_toldKinds 56 = .ok (.getfield 69, 3) := by decide +kernel
theorem dX7_toldKinds_59 : decode cX7_toldKinds 59 = .ok (.iconst 1, 1) := by decide +kernel
theorem dX7_toldKinds_60 : decode cX7_toldKinds 60 = .ok (.iadd, 1) := by decide +kernel
theorem dX7_toldKinds_61 : decode cX7_toldKinds 61 = .ok (.putfield 69, 3) := by decide +kernel
theorem dX7_toldKinds_64 : decode cX7_toldKinds 64 = .ok (.goto (-51), 3) := by decide +kernel
theorem dX7_toldKinds_67 : decode cX7_toldKinds 67 = .ok (.aload_n 0, 1) := by decide +kernel
theorem dX7_toldKinds_68 : decode cX7_toldKinds 68 = .ok (.bipush (-4), 2) := by decide +kernel
theorem dX7_toldKinds_70 : decode cX7_toldKinds 70 = .ok (.putfield 48, 3) := by decide +kernel
theorem dX7_toldKinds_73 : decode cX7_toldKinds 73 = .ok (.iload 6, 2) := by decide +kernel
theorem dX7_toldKinds_75 : decode cX7_toldKinds 75 = .ok (.ireturn, 1) := by decide +kernel
theorem dX7_toldWants_0 : decode cX7_toldWants 0 = .ok (.iconst 0, 1) := by decide +kernel
theorem dX7_toldWants_1 : decode cX7_toldWants 1 = .ok (.istore 6, 2) := by decide +kernel
theorem dX7_toldWants_3 : decode cX7_toldWants 3 = .ok (.iconst 0, 1) := by decide +kernel
theorem dX7_toldWants_4 : decode cX7_toldWants 4 = .ok (.istore 7, 2) := by decide +kernel
theorem dX7_toldWants_6 : decode cX7_toldWants 6 = .ok (.iload 7, 2) := by decide +kernel
theorem dX7_toldWants_8 : decode cX7_toldWants 8 = .ok (.bipush 21, 2) := by decide +kernel
theorem dX7_toldWants_10 : decode cX7_toldWants 10 = .ok (.if_icmp .ge 52, 3) := by decide +kernel
theorem dX7_toldWants_13 : decode cX7_toldWants 13 = .ok (.aload_n 0, 1) := by decide +kernel
theorem dX7_toldWants_14 : decode cX7_toldWants 14 = .ok (.invokevirtual 122, 3) := by decide +kernel
theorem dX7_toldWants_17 : decode cX7_toldWants 17 = .ok (.aload_n 0, 1) := by decide +kernel
theorem dX7_toldWants_18 : decode cX7_toldWants 18 = .ok (.getfield 20, 3) := by decide +kernel
theorem dX7_toldWants_21 : decode cX7_toldWants 21 = .ok (.iconst 4, 1) := by decide +kernel
theorem dX7_toldWants_22 : decode cX7_toldWants 22 = .ok (.iload_n 1, 1) := by decide +kernel
theorem dX7_toldWants_23 : decode cX7_toldWants 23 = .ok (.imul, 1) := by decide +kernel
theorem dX7_toldWants_24 : decode cX7_toldWants 24 = .ok (.iload_n 2, 1) := by decide +kernel
theorem dX7_toldWants_25 : decode cX7_toldWants 25 = .ok (.iadd, 1) := by decide +kernel
theorem dX7_toldWants_26 : decode cX7_toldWants 26 = .ok (.iload 7, 2) := by decide +kernel
theorem dX7_toldWants_28 : decode cX7_toldWants 28 = .ok (.iastore, 1) := by decide +kernel
theorem dX7_toldWants_29 : decode cX7_toldWants 29 = .ok (.iload 6, 2) := by decide +kernel
theorem dX7_toldWants_31 : decode cX7_toldWants 31 = .ok (.aload_n 0, 1) := by decide +kernel
theorem dX7_toldWants_32 : decode cX7_toldWants 32 = .ok (.iload_n 1, 1) := by decide +kernel
theorem dX7_toldWants_33 : decode cX7_toldWants 33 = .ok (.iload_n 2, 1) := by decide +kernel
theorem dX7_toldWants_34 : decode cX7_toldWants 34 = .ok (.iload_n 3, 1) := by decide +kernel
theorem dX7_toldWants_35 : decode cX7_toldWants 35 = .ok (.iload 4, 2) := by decide +kernel
theorem dX7_toldWants_37 : decode cX7_toldWants 37 = .ok (.iload 5, 2) := by decide +kernel
theorem dX7_toldWants_39 : decode cX7_toldWants 39 = .ok (.invokevirtual 215, 3) := by decide +kernel
theorem dX7_toldWants_42 : decode cX7_toldWants 42 = .ok (.ifCond .eq 10, 3) := by decide +kernel
theorem dX7_toldWants_45 : decode cX7_toldWants 45 = .ok (.iconst 1, 1) := by decide +kernel
theorem dX7_toldWants_46 : decode cX7_toldWants 46 = .ok (.iload 7, 2) := by decide +kernel
theorem dX7_toldWants_48 : decode cX7_toldWants 48 = .ok (.ishl, 1) := by decide +kernel
theorem dX7_toldWants_49 : decode cX7_toldWants 49 = .ok (.goto 4, 3) := by decide +kernel
theorem dX7_toldWants_52 : decode cX7_toldWants 52 = .ok (.iconst 0, 1) := by decide +kernel
theorem dX7_toldWants_53 : decode cX7_toldWants 53 = .ok (.ior, 1) := by decide +kernel
theorem dX7_toldWants_54 : decode cX7_toldWants 54 = .ok (.istore 6, 2) := by decide +kernel
theorem dX7_toldWants_56 : decode cX7_toldWants 56 = .ok (.iinc 7 1, 3) := by decide +kernel
theorem dX7_toldWants_59 : decode cX7_toldWants 59 = .ok (.goto (-53), 3) := by decide +kernel
theorem dX7_toldWants_62 : decode cX7_toldWants 62 = .ok (.iload 6, 2) := by decide +kernel
theorem dX7_toldWants_64 : decode cX7_toldWants 64 = .ok (.ireturn, 1) := by decide +kernel
theorem dX7_toldRules_0 : decode cX7_toldRules 0 = .ok (.iconst 0, 1) := by decide +kernel
theorem dX7_toldRules_1 : decode cX7_toldRules 1 = .ok (.istore 6, 2) := by decide +kernel
theorem dX7_toldRules_3 : decode cX7_toldRules 3 = .ok (.aload_n 0, 1) := by decide +kernel
theorem dX7_toldRules_4 : decode cX7_toldRules 4 = .ok (.getfield 7, 3) := by decide +kernel
theorem dX7_toldRules_7 : decode cX7_toldRules 7 = .ok (.istore 7, 2) := by decide +kernel
theorem dX7_toldRules_9 : decode cX7_toldRules 9 = .ok (.aload_n 0, 1) := by decide +kernel
theorem dX7_toldRules_10 : decode cX7_toldRules 10 = .ok (.iconst 1, 1) := by decide +kernel
theorem dX7_toldRules_11 : decode cX7_toldRules 11 = .ok (.putfield 7, 3) := by decide +kernel
theorem dX7_toldRules_14 : decode cX7_toldRules 14 = .ok (.aload_n 0, 1) := by decide +kernel
theorem dX7_toldRules_15 : decode cX7_toldRules 15 = .ok (.getfield 7, 3) := by decide +kernel
theorem dX7_toldRules_18 : decode cX7_toldRules 18 = .ok (.bipush 21, 2) := by decide +kernel
theorem dX7_toldRules_20 : decode cX7_toldRules 20 = .ok (.if_icmp .ge 49, 3) := by decide +kernel
theorem dX7_toldRules_23 : decode cX7_toldRules 23 = .ok (.aload_n 0, 1) := by decide +kernel
theorem dX7_toldRules_24 : decode cX7_toldRules 24 = .ok (.invokevirtual 122, 3) := by decide +kernel
theorem dX7_toldRules_27 : decode cX7_toldRules 27 = .ok (.iload 6, 2) := by decide +kernel
theorem dX7_toldRules_29 : decode cX7_toldRules 29 = .ok (.aload_n 0, 1) := by decide +kernel
theorem dX7_toldRules_30 : decode cX7_toldRules 30 = .ok (.iload_n 1, 1) := by decide +kernel
theorem dX7_toldRules_31 : decode cX7_toldRules 31 = .ok (.iload_n 2, 1) := by decide +kernel
theorem dX7_toldRules_32 : decode cX7_toldRules 32 = .ok (.iload_n 3, 1) := by decide +kernel
theorem dX7_toldRules_33 : decode cX7_toldRules 33 = .ok (.iload 4, 2) := by decide +kernel
theorem dX7_toldRules_35 : decode cX7_toldRules 35 = .ok (.iload 5, 2) := by decide +kernel
theorem dX7_toldRules_37 : decode cX7_toldRules 37 = .ok (.invokevirtual 215, 3) := by decide +kernel
theorem dX7_toldRules_40 : decode cX7_toldRules 40 = .ok (.ifCond .eq 12, 3) := by decide +kernel
theorem dX7_toldRules_43 : decode cX7_toldRules 43 = .ok (.iconst 1, 1) := by decide +kernel
theorem dX7_toldRules_44 : decode cX7_toldRules 44 = .ok (.aload_n 0, 1) := by decide +kernel
theorem dX7_toldRules_45 : decode cX7_toldRules 45 = .ok (.getfield 7, 3) := by decide +kernel
theorem dX7_toldRules_48 : decode cX7_toldRules 48 = .ok (.ishl, 1) := by decide +kernel
theorem dX7_toldRules_49 : decode cX7_toldRules 49 = .ok (.goto 4, 3) := by decide +kernel
theorem dX7_toldRules_52 : decode cX7_toldRules 52 = .ok (.iconst 0, 1) := by decide +kernel
theorem dX7_toldRules_53 : decode cX7_toldRules 53 = .ok (.ior, 1) := by decide +kernel
theorem dX7_toldRules_54 : decode cX7_toldRules 54 = .ok (.istore 6, 2) := by decide +kernel
theorem dX7_toldRules_56 : decode cX7_toldRules 56 = .ok (.aload_n 0, 1) := by decide +kernel
theorem dX7_toldRules_57 : decode cX7_toldRules 57 = .ok (.dup, 1) := by decide +kernel
theorem dX7_toldRules_58 : decode cX7_toldRules 58 = .ok (.getfield 7, 3) := by decide +kernel
theorem dX7_toldRules_61 : decode cX7_toldRules 61 = .ok (.iconst 1, 1) := by decide +kernel
theorem dX7_toldRules_62 : decode cX7_toldRules 62 = .ok (.iadd, 1) := by decide +kernel
theorem dX7_toldRules_63 : decode cX7_toldRules 63 = .ok (.putfield 7, 3) := by decide +kernel
theorem dX7_toldRules_66 : decode cX7_toldRules 66 = .ok (.goto (-52), 3) := by decide +kernel
theorem dX7_toldRules_69 : decode cX7_toldRules 69 = .ok (.aload_n 0, 1) := by decide +kernel
theorem dX7_toldRules_70 : decode cX7_toldRules 70 = .ok (.iload 7, 2) := by decide +kernel
theorem dX7_toldRules_72 : decode cX7_toldRules 72 = .ok (.putfield 7, 3) := by decide +kernel
theorem dX7_toldRules_75 : decode cX7_toldRules 75 = .ok (.iload 6, 2) := by decide +kernel
theorem dX7_toldRules_77 : decode cX7_toldRules 77 = .ok (.ireturn, 1) := by decide +kernel
theorem dX7_told_0 : decode cX7_told 0 = .ok (.aload_n 0, 1) := by decide +kernel
theorem dX7_told_1 : decode cX7_told 1 = .ok (.iload_n 1, 1) := by decide +kernel
theorem dX7_told_2 : decode cX7_told 2 = .ok (.invokevirtual 107, 3) := by decide +kernel
theorem dX7_told_5 : decode cX7_told 5 = .ok (.ifCond .eq 51, 3) := by decide +kernel
theorem dX7_told_8 : decode cX7_told 8 = .ok (.iload_n 2, 1) := by decide +kernel
theorem dX7_told_9 : decode cX7_told 9 = .ok (.invokestatic 111, 3) := by decide +kernel
theorem dX7_told_12 : decode cX7_told 12 = .ok (.ifCond .eq 44, 3) := by decide +kernel
theorem dX7_told_15 : decode cX7_told 15 = .ok (.iload_n 3, 1) := by decide +kernel
theorem dX7_told_16 : decode cX7_told 16 = .ok (.invokestatic 219, 3) := by decide +kernel
theorem dX7_told_19 : decode cX7_told 19 = .ok (.ifCond .eq 37, 3) := by decide +kernel
theorem dX7_told_22 : decode cX7_told 22 = .ok (.iload 4, 2) := by decide +kernel
theorem dX7_told_24 : decode cX7_told 24 = .ok (.invokestatic 222, 3) := by decide +kernel
theorem dX7_told_27 : decode cX7_told 27 = .ok (.ifCond .eq 29, 3) := by decide +kernel
theorem dX7_told_30 : decode cX7_told 30 = .ok (.iload 6, 2) := by decide +kernel
theorem dX7_told_32 : decode cX7_told 32 = .ok (.i2l, 1) := by decide +kernel
theorem dX7_told_33 : decode cX7_told 33 = .ok (.lconst 1, 1) := by decide +kernel
theorem dX7_told_34 : decode cX7_told 34 = .ok (.ldc2_w 225, 3) := by decide +kernel
theorem dX7_told_37 : decode cX7_told 37 = .ok (.invokestatic 63, 3) := by decide +kernel
theorem dX7_told_40 : decode cX7_told 40 = .ok (.ifCond .eq 16, 3) := by decide +kernel
theorem dX7_told_43 : decode cX7_told 43 = .ok (.iload 7, 2) := by decide +kernel
theorem dX7_told_45 : decode cX7_told 45 = .ok (.i2l, 1) := by decide +kernel
theorem dX7_told_46 : decode cX7_told 46 = .ok (.lconst 0, 1) := by decide +kernel
theorem dX7_told_47 : decode cX7_told 47 = .ok (.ldc2_w 114, 3) := by decide +kernel
theorem dX7_told_50 : decode cX7_told 50 = .ok (.invokestatic 63, 3) := by decide +kernel
theorem dX7_told_53 : decode cX7_told 53 = .ok (.ifCond .ne 5, 3) := by decide +kernel
theorem dX7_told_56 : decode cX7_told 56 = .ok (.iconst (-1), 1) := by decide +kernel
theorem dX7_told_57 : decode cX7_told 57 = .ok (.ireturn, 1) := by decide +kernel
theorem dX7_told_58 : decode cX7_told 58 = .ok (.aload_n 0, 1) := by decide +kernel
theorem dX7_told_59 : decode cX7_told 59 = .ok (.iload_n 3, 1) := by decide +kernel
theorem dX7_told_60 : decode cX7_told 60 = .ok (.iload 4, 2) := by decide +kernel
theorem dX7_told_62 : decode cX7_told 62 = .ok (.iload 5, 2) := by decide +kernel
theorem dX7_told_64 : decode cX7_told 64 = .ok (.iload 6, 2) := by decide +kernel
theorem dX7_told_66 : decode cX7_told 66 = .ok (.invokevirtual 227, 3) := by decide +kernel
theorem dX7_told_69 : decode cX7_told 69 = .ok (.istore 8, 2) := by decide +kernel
theorem dX7_told_71 : decode cX7_told 71 = .ok (.iload 8, 2) := by decide +kernel
theorem dX7_told_73 : decode cX7_told 73 = .ok (.ifCond .eq 6, 3) := by decide +kernel
theorem dX7_told_76 : decode cX7_told 76 = .ok (.iload 8, 2) := by decide +kernel
theorem dX7_told_78 : decode cX7_told 78 = .ok (.ireturn, 1) := by decide +kernel
theorem dX7_told_79 : decode cX7_told 79 = .ok (.iload 7, 2) := by decide +kernel
theorem dX7_told_81 : decode cX7_told 81 = .ok (.ifCond .ne 17, 3) := by decide +kernel
theorem dX7_told_84 : decode cX7_told 84 = .ok (.aload_n 0, 1) := by decide +kernel
theorem dX7_told_85 : decode cX7_told 85 = .ok (.iload_n 1, 1) := by decide +kernel
theorem dX7_told_86 : decode cX7_told 86 = .ok (.iload_n 2, 1) := by decide +kernel
theorem dX7_told_87 : decode cX7_told 87 = .ok (.iload_n 3, 1) := by decide +kernel
theorem dX7_told_88 : decode cX7_told 88 = .ok (.iload 5, 2) := by decide +kernel
theorem dX7_told_90 : decode cX7_told 90 = .ok (.iload 6, 2) := by decide +kernel
theorem dX7_told_92 : decode cX7_told 92 = .ok (.invokevirtual 231, 3) := by decide +kernel
theorem dX7_told_95 : decode cX7_told 95 = .ok (.goto 34, 3) := by decide +kernel
theorem dX7_told_98 : decode cX7_told 98 = .ok (.iload 7, 2) := by decide +kernel
theorem dX7_told_100 : decode cX7_told 100 = .ok (.iconst 1, 1) := by decide +kernel
theorem dX7_told_101 : decode cX7_told 101 = .ok (.if_icmp .ne 17, 3) := by decide +kernel
theorem dX7_told_104 : decode cX7_told 104 = .ok (.aload_n 0, 1) := by decide +kernel
theorem dX7_told_105 : decode cX7_told 105 = .ok (.iload_n 1, 1) := by decide +kernel
theorem dX7_told_106 : decode cX7_told 106 = .ok (.iload_n 2, 1) := by decide +kernel
theorem dX7_told_107 : decode cX7_told 107 = .ok (.iload_n 3, 1) := by decide +kernel
theorem dX7_told_108 : decode cX7_told 108 = .ok (.iload 5, 2) := by decide +kernel
theorem dX7_told_110 : decode cX7_told 110 = .ok (.iload 6, 2) := by decide +kernel
theorem dX7_told_112 : decode cX7_told 112 = .ok (.invokevirtual 235, 3) := by decide +kernel
theorem dX7_told_115 : decode cX7_told 115 = .ok (.goto 14, 3) := by decide +kernel
theorem dX7_told_118 : decode cX7_told 118 = .ok (.aload_n 0, 1) := by decide +kernel
theorem dX7_told_119 : decode cX7_told 119 = .ok (.iload_n 1, 1) := by decide +kernel
theorem dX7_told_120 : decode cX7_told 120 = .ok (.iload_n 2, 1) := by decide +kernel
theorem dX7_told_121 : decode cX7_told 121 = .ok (.iload_n 3, 1) := by decide +kernel
theorem dX7_told_122 : decode cX7_told 122 = .ok (.iload 5, 2) := by decide +kernel
theorem dX7_told_124 : decode cX7_told 124 = .ok (.iload 6, 2) := by decide +kernel
theorem dX7_told_126 : decode cX7_told 126 = .ok (.invokevirtual 238, 3) := by decide +kernel
theorem dX7_told_129 : decode cX7_told 129 = .ok (.ireturn, 1) := by decide +kernel
theorem dX7_film_0 : decode cX7_film 0 = .ok (.aload_n 0, 1) := by decide +kernel
theorem dX7_film_1 : decode cX7_film 1 = .ok (.iload_n 1, 1) := by decide +kernel
theorem dX7_film_2 : decode cX7_film 2 = .ok (.invokevirtual 107, 3) := by decide +kernel
theorem dX7_film_5 : decode cX7_film 5 = .ok (.ifCond .eq 38, 3) := by decide +kernel
theorem dX7_film_8 : decode cX7_film 8 = .ok (.iload_n 2, 1) := by decide +kernel
theorem dX7_film_9 : decode cX7_film 9 = .ok (.invokestatic 111, 3) := by decide +kernel
theorem dX7_film_12 : decode cX7_film 12 = .ok (.ifCond .eq 31, 3) := by decide +kernel
theorem dX7_film_15 : decode cX7_film 15 = .ok (.iload_n 3, 1) := by decide +kernel
theorem dX7_film_16 : decode cX7_film 16 = .ok (.i2l, 1) := by decide +kernel
theorem dX7_film_17 : decode cX7_film 17 = .ok (.lconst 1, 1) := by decide +kernel
theorem dX7_film_18 : decode cX7_film 18 = .ok (.ldc2_w 241, 3) := by decide +kernel
theorem dX7_film_21 : decode cX7_film 21 = .ok (.invokestatic 63, 3) := by decide +kernel
theorem dX7_film_24 : decode cX7_film 24 = .ok (.ifCond .eq 19, 3) := by decide +kernel
theorem dX7_film_27 : decode cX7_film 27 = .ok (.iload 4, 2) := by decide +kernel
theorem dX7_film_29 : decode cX7_film 29 = .ok (.invokestatic 219, 3) := by decide +kernel
theorem dX7_film_32 : decode cX7_film 32 = .ok (.ifCond .eq 11, 3) := by decide +kernel
theorem dX7_film_35 : decode cX7_film 35 = .ok (.iload 5, 2) := by decide +kernel
theorem dX7_film_37 : decode cX7_film 37 = .ok (.invokestatic 222, 3) := by decide +kernel
theorem dX7_film_40 : decode cX7_film 40 = .ok (.ifCond .ne 5, 3) := by decide +kernel
theorem dX7_film_43 : decode cX7_film 43 = .ok (.iconst (-1), 1) := by decide +kernel
theorem dX7_film_44 : decode cX7_film 44 = .ok (.ireturn, 1) := by decide +kernel
theorem dX7_film_45 : decode cX7_film 45 = .ok (.aload_n 0, 1) := by decide +kernel
theorem dX7_film_46 : decode cX7_film 46 = .ok (.iload 4, 2) := by decide +kernel
theorem dX7_film_48 : decode cX7_film 48 = .ok (.iload 5, 2) := by decide +kernel
theorem dX7_film_50 : decode cX7_film 50 = .ok (.iload 6, 2) := by decide +kernel
theorem dX7_film_52 : decode cX7_film 52 = .ok (.iload_n 3, 1) := by decide +kernel
theorem dX7_film_53 : decode cX7_film 53 = .ok (.invokevirtual 227, 3) := by decide +kernel
theorem dX7_film_56 : decode cX7_film 56 = .ok (.istore 7, 2) := by decide +kernel
theorem dX7_film_58 : decode cX7_film 58 = .ok (.iload 7, 2) := by decide +kernel
theorem dX7_film_60 : decode cX7_film 60 = .ok (.ifCond .eq 6, 3) := by decide +kernel
theorem dX7_film_63 : decode cX7_film 63 = .ok (.iload 7, 2) := by decide +kernel
theorem dX7_film_65 : decode cX7_film 65 = .ok (.ireturn, 1) := by decide +kernel
theorem dX7_film_66 : decode cX7_film 66 = .ok (.aload_n 0, 1) := by decide +kernel
theorem dX7_film_67 : decode cX7_film 67 = .ok (.invokevirtual 122, 3) := by decide +kernel
theorem dX7_film_70 : decode cX7_film 70 = .ok (.iconst 0, 1) := by decide +kernel
theorem dX7_film_71 : decode cX7_film 71 = .ok (.istore 8, 2) := by decide +kernel
theorem dX7_film_73 : decode cX7_film 73 = .ok (.iload 8, 2) := by decide +kernel
theorem dX7_film_75 : decode cX7_film 75 = .ok (.iload_n 3, 1) := by decide +kernel
theorem dX7_film_76 : decode cX7_film 76 = .ok (.if_icmp .ge 40, 3) := by decide +kernel
theorem dX7_film_79 : decode cX7_film 79 = .ok (.aload_n 0, 1) := by decide +kernel
theorem dX7_film_80 : decode cX7_film 80 = .ok (.invokevirtual 97, 3) := by decide +kernel
theorem dX7_film_83 : decode cX7_film 83 = .ok (.aload_n 0, 1) := by decide +kernel
theorem dX7_film_84 : decode cX7_film 84 = .ok (.getfield 35, 3) := by decide +kernel
theorem dX7_film_87 : decode cX7_film 87 = .ok (.bipush 24, 2) := by decide +kernel
theorem dX7_film_89 : decode cX7_film 89 = .ok (.iload 4, 2) := by decide +kernel
theorem dX7_film_91 : decode cX7_film 91 = .ok (.imul, 1) := by decide +kernel
theorem dX7_film_92 : decode cX7_film 92 = .ok (.iload 6, 2) := by decide +kernel
theorem dX7_film_94 : decode cX7_film 94 = .ok (.iadd, 1) := by decide +kernel
theorem dX7_film_95 : decode cX7_film 95 = .ok (.iload 8, 2) := by decide +kernel
theorem dX7_film_97 : decode cX7_film 97 = .ok (.iadd, 1) := by decide +kernel
theorem dX7_film_98 : decode cX7_film 98 = .ok (.aload_n 0, 1) := by decide +kernel
theorem dX7_film_99 : decode cX7_film 99 = .ok (.getfield 20, 3) := by decide +kernel
theorem dX7_film_102 : decode cX7_film 102 = .ok (.iconst 4, 1) := by decide +kernel
theorem dX7_film_103 : decode cX7_film 103 = .ok (.iload_n 1, 1) := by decide +kernel
theorem dX7_film_104 : decode cX7_film 104 = .ok (.imul, 1) := by decide +kernel
theorem dX7_film_105 : decode cX7_film 105 = .ok (.iload_n 2, 1) := by decide +kernel
theorem dX7_film_106 : decode cX7_film 106 = .ok (.iadd, 1) := by decide +kernel
theorem dX7_film_107 : decode cX7_film 107 = .ok (.iaload, 1) := by decide +kernel
theorem dX7_film_108 : decode cX7_film 108 = .ok (.i2l, 1) := by decide +kernel
theorem dX7_film_109 : decode cX7_film 109 = .ok (.lastore, 1) := by decide +kernel
theorem dX7_film_110 : decode cX7_film 110 = .ok (.iinc 8 1, 3) := by decide +kernel
theorem dX7_film_113 : decode cX7_film 113 = .ok (.goto (-40), 3) := by decide +kernel
theorem dX7_film_116 : decode cX7_film 116 = .ok (.iload_n 3, 1) := by decide +kernel
theorem dX7_film_117 : decode cX7_film 117 = .ok (.ireturn, 1) := by decide +kernel
theorem dX7_sheet_0 : decode cX7_sheet 0 = .ok (.iload_n 1, 1) := by decide +kernel
theorem dX7_sheet_1 : decode cX7_sheet 1 = .ok (.invokestatic 219, 3) := by decide +kernel
theorem dX7_sheet_4 : decode cX7_sheet 4 = .ok (.ifCond .eq 16, 3) := by decide +kernel
theorem dX7_sheet_7 : decode cX7_sheet 7 = .ok (.iload_n 2, 1) := by decide +kernel
theorem dX7_sheet_8 : decode cX7_sheet 8 = .ok (.invokestatic 222, 3) := by decide +kernel
theorem dX7_sheet_11 : decode cX7_sheet 11 = .ok (.ifCond .eq 9, 3) := by decide +kernel
theorem dX7_sheet_14 : decode cX7_sheet 14 = .ok (.iload_n 3, 1) := by decide +kernel
theorem dX7_sheet_15 : decode cX7_sheet 15 = .ok (.bipush 24, 2) := by decide +kernel
theorem dX7_sheet_17 : decode cX7_sheet 17 = .ok (.if_icmp .le 5, 3) := by decide +kernel
theorem dX7_sheet_20 : decode cX7_sheet 20 = .ok (.iconst (-1), 1) := by decide +kernel
theorem dX7_sheet_21 : decode cX7_sheet 21 = .ok (.ireturn, 1) := by decide +kernel
theorem dX7_sheet_22 : decode cX7_sheet 22 = .ok (.iload_n 3, 1) := by decide +kernel
theorem dX7_sheet_23 : decode cX7_sheet 23 = .ok (.ifCond .ge 6, 3) := by decide +kernel
theorem dX7_sheet_26 : decode cX7_sheet 26 = .ok (.bipush (-14), 2) := by decide +kernel
theorem dX7_sheet_28 : decode cX7_sheet 28 = .ok (.ireturn, 1) := by decide +kernel
theorem dX7_sheet_29 : decode cX7_sheet 29 = .ok (.aload_n 0, 1) := by decide +kernel
theorem dX7_sheet_30 : decode cX7_sheet 30 = .ok (.getfield 39, 3) := by decide +kernel
theorem dX7_sheet_33 : decode cX7_sheet 33 = .ok (.iload_n 1, 1) := by decide +kernel
theorem dX7_sheet_34 : decode cX7_sheet 34 = .ok (.iload_n 2, 1) := by decide +kernel
theorem dX7_sheet_35 : decode cX7_sheet 35 = .ok (.iastore, 1) := by decide +kernel
theorem dX7_sheet_36 : decode cX7_sheet 36 = .ok (.aload_n 0, 1) := by decide +kernel
theorem dX7_sheet_37 : decode cX7_sheet 37 = .ok (.getfield 42, 3) := by decide +kernel
theorem dX7_sheet_40 : decode cX7_sheet 40 = .ok (.iload_n 1, 1) := by decide +kernel
theorem dX7_sheet_41 : decode cX7_sheet 41 = .ok (.iload_n 3, 1) := by decide +kernel
theorem dX7_sheet_42 : decode cX7_sheet 42 = .ok (.iastore, 1) := by decide +kernel
theorem dX7_sheet_43 : decode cX7_sheet 43 = .ok (.iconst 0, 1) := by decide +kernel
theorem dX7_sheet_44 : decode cX7_sheet 44 = .ok (.istore 4, 2) := by decide +kernel
theorem dX7_sheet_46 : decode cX7_sheet 46 = .ok (.iload 4, 2) := by decide +kernel
theorem dX7_sheet_48 : decode cX7_sheet 48 = .ok (.iload_n 3, 1) := by decide +kernel
theorem dX7_sheet_49 : decode cX7_sheet 49 = .ok (.if_icmp .ge 22, 3) := by decide +kernel
theorem dX7_sheet_52 : decode cX7_sheet 52 = .ok (.aload_n 0, 1) := by decide +kernel
theorem dX7_sheet_53 : decode cX7_sheet 53 = .ok (.getfield 35, 3) := by decide +kernel
theorem dX7_sheet_56 : decode cX7_sheet 56 = .ok (.bipush 24, 2) := by decide +kernel
theorem dX7_sheet_58 : decode cX7_sheet 58 = .ok (.iload_n 1, 1) := by decide +kernel
theorem dX7_sheet_59 : decode cX7_sheet 59 = .ok (.imul, 1) := by decide +kernel
theorem dX7_sheet_60 : decode cX7_sheet 60 = .ok (.iload 4, 2) := by decide +kernel
theorem dX7_sheet_62 : decode cX7_sheet 62 = .ok (.iadd, 1) := by decide +kernel
theorem dX7_sheet_63 : decode cX7_sheet 63 = .ok (.lconst 0, 1) := by decide +kernel
theorem dX7_sheet_64 : decode cX7_sheet 64 = .ok (.lastore, 1) := by decide +kernel
theorem dX7_sheet_65 : decode cX7_sheet 65 = .ok (.iinc 4 1, 3) := by decide +kernel
theorem dX7_sheet_68 : decode cX7_sheet 68 = .ok (.goto (-22), 3) := by decide +kernel
theorem dX7_sheet_71 : decode cX7_sheet 71 = .ok (.iload_n 3, 1) := by decide +kernel
theorem dX7_sheet_72 : decode cX7_sheet 72 = .ok (.ireturn, 1) := by decide +kernel
theorem dX7_drop_0 : decode cX7_drop 0 = .ok (.iload_n 1, 1) := by decide +kernel
theorem dX7_drop_1 : decode cX7_drop 1 = .ok (.invokestatic 219, 3) := by decide +kernel
theorem dX7_drop_4 : decode cX7_drop 4 = .ok (.ifCond .ne 5, 3) := by decide +kernel
theorem dX7_drop_7 : decode cX7_drop 7 = .ok (.iconst (-1), 1) := by decide +kernel
theorem dX7_drop_8 : decode cX7_drop 8 = .ok (.ireturn, 1) := by decide +kernel
theorem dX7_drop_9 : decode cX7_drop 9 = .ok (.aload_n 0, 1) := by decide +kernel
theorem dX7_drop_10 : decode cX7_drop 10 = .ok (.getfield 42, 3) := by decide +kernel
theorem dX7_drop_13 : decode cX7_drop 13 = .ok (.iload_n 1, 1) := by decide +kernel
theorem dX7_drop_14 : decode cX7_drop 14 = .ok (.iaload, 1) := by decide +kernel
theorem dX7_drop_15 : decode cX7_drop 15 = .ok (.ifCond .ge 6, 3) := by decide +kernel
theorem dX7_drop_18 : decode cX7_drop 18 = .ok (.bipush (-11), 2) := by decide +kernel
theorem dX7_drop_20 : decode cX7_drop 20 = .ok (.ireturn, 1) := by decide +kernel
theorem dX7_drop_21 : decode cX7_drop 21 = .ok (.aload_n 0, 1) := by decide +kernel
theorem dX7_drop_22 : decode cX7_drop 22 = .ok (.getfield 42, 3) := by decide +kernel
theorem dX7_drop_25 : decode cX7_drop 25 = .ok (.iload_n 1, 1) := by decide +kernel
theorem dX7_drop_26 : decode cX7_drop 26 = .ok (.iaload, 1) := by decide +kernel
theorem dX7_drop_27 : decode cX7_drop 27 = .ok (.istore_n 2, 1) := by decide +kernel
theorem dX7_drop_28 : decode cX7_drop 28 = .ok (.aload_n 0, 1) := by decide +kernel
theorem dX7_drop_29 : decode cX7_drop 29 = .ok (.getfield 42, 3) := by decide +kernel
theorem dX7_drop_32 : decode cX7_drop 32 = .ok (.iload_n 1, 1) := by decide +kernel
theorem dX7_drop_33 : decode cX7_drop 33 = .ok (.iconst (-1), 1) := by decide +kernel
theorem dX7_drop_34 : decode cX7_drop 34 = .ok (.iastore, 1) := by decide +kernel
theorem dX7_drop_35 : decode cX7_drop 35 = .ok (.iload_n 2, 1) := by decide +kernel
theorem dX7_drop_36 : decode cX7_drop 36 = .ok (.ireturn, 1) := by decide +kernel
theorem dX7_item_0 : decode cX7_item 0 = .ok (.iload_n 1, 1) := by decide +kernel
theorem dX7_item_1 : decode cX7_item 1 = .ok (.invokestatic 219, 3) := by decide +kernel
theorem dX7_item_4 : decode cX7_item 4 = .ok (.ifCond .eq 10, 3) := by decide +kernel
theorem dX7_item_7 : decode cX7_item 7 = .ok (.iload_n 2, 1) := by decide +kernel
theorem dX7_item_8 : decode cX7_item 8 = .ok (.invokestatic 222, 3) := by decide +kernel
theorem dX7_item_11 : decode cX7_item 11 = .ok (.ifCond .ne 5, 3) := by decide +kernel
theorem dX7_item_14 : decode cX7_item 14 = .ok (.iconst (-1), 1) := by decide +kernel
theorem dX7_item_15 : decode cX7_item 15 = .ok (.ireturn, 1) := by decide +kernel
theorem dX7_item_16 : decode cX7_item 16 = .ok (.aload_n 0, 1) := by decide +kernel
theorem dX7_item_17 : decode cX7_item 17 = .ok (.iload_n 1, 1) := by decide +kernel
theorem dX7_item_18 : decode cX7_item 18 = .ok (.iload_n 2, 1) := by decide +kernel
theorem dX7_item_19 : decode cX7_item 19 = .ok (.iload_n 3, 1) := by decide +kernel
theorem dX7_item_20 : decode cX7_item 20 = .ok (.iconst 1, 1) := by decide +kernel
theorem dX7_item_21 : decode cX7_item 21 = .ok (.invokevirtual 227, 3) := by decide +kernel
theorem dX7_item_24 : decode cX7_item 24 = .ok (.istore 6, 2) := by decide +kernel
theorem dX7_item_26 : decode cX7_item 26 = .ok (.iload 6, 2) := by decide +kernel
theorem dX7_item_28 : decode cX7_item 28 = .ok (.ifCond .eq 6, 3) := by decide +kernel
theorem dX7_item_31 : decode cX7_item 31 = .ok (.iload 6, 2) := by decide +kernel
theorem dX7_item_33 : decode cX7_item 33 = .ok (.ireturn, 1) := by decide +kernel
theorem dX7_item_34 : decode cX7_item 34 = .ok (.aload_n 0, 1) := by decide +kernel
theorem dX7_item_35 : decode cX7_item 35 = .ok (.getfield 35, 3) := by decide +kernel
theorem dX7_item_38 : decode cX7_item 38 = .ok (.bipush 24, 2) := by decide +kernel
theorem dX7_item_40 : decode cX7_item 40 = .ok (.iload_n 1, 1) := by decide +kernel
theorem dX7_item_41 : decode cX7_item 41 = .ok (.imul, 1) := by decide +kernel
theorem dX7_item_42 : decode cX7_item 42 = .ok (.iload_n 3, 1) := by decide +kernel
theorem dX7_item_43 : decode cX7_item 43 = .ok (.iadd, 1) := by decide +kernel
theorem dX7_item_44 : decode cX7_item 44 = .ok (.iload_n 2, 1) := by decide +kernel
theorem dX7_item_45 : decode cX7_item 45 = .ok (.ifCond .ne 14, 3) := by decide +kernel
theorem dX7_item_48 : decode cX7_item 48 = .ok (.lload 4, 2) := by decide +kernel
theorem dX7_item_50 : decode cX7_item 50 = .ok (.bipush 56, 2) := by decide +kernel
theorem dX7_item_52 : decode cX7_item 52 = .ok (.lshl, 1) := by decide +kernel
theorem dX7_item_53 : decode cX7_item 53 = .ok (.bipush 56, 2) := by decide +kernel
theorem dX7_item_55 : decode cX7_item 55 = .ok (.lshr, 1) := by decide +kernel
theorem dX7_item_56 : decode cX7_item 56 = .ok (.goto 37, 3) := by decide +kernel
theorem dX7_item_59 : decode cX7_item 59 = .ok (.iload_n 2, 1) := by decide +kernel
theorem dX7_item_60 : decode cX7_item 60 = .ok (.iconst 1, 1) := by decide +kernel
theorem dX7_item_61 : decode cX7_item 61 = .ok (.if_icmp .ne 14, 3) := by decide +kernel
theorem dX7_item_64 : decode cX7_item 64 = .ok (.lload 4, 2) := by decide +kernel
theorem dX7_item_66 : decode cX7_item 66 = .ok (.bipush 48, 2) := by decide +kernel
theorem dX7_item_68 : decode cX7_item 68 = .ok (.lshl, 1) := by decide +kernel
theorem dX7_item_69 : decode cX7_item 69 = .ok (.bipush 48, 2) := by decide +kernel
theorem dX7_item_71 : decode cX7_item 71 = .ok (.lshr, 1) := by decide +kernel
theorem dX7_item_72 : decode cX7_item 72 = .ok (.goto 21, 3) := by decide +kernel
theorem dX7_item_75 : decode cX7_item 75 = .ok (.iload_n 2, 1) := by decide +kernel
theorem dX7_item_76 : decode cX7_item 76 = .ok (.iconst 2, 1) := by decide +kernel
theorem dX7_item_77 : decode cX7_item 77 = .ok (.if_icmp .ne 14, 3) := by decide +kernel
theorem dX7_item_80 : decode cX7_item 80 = .ok (.lload 4, 2) := by decide +kernel
theorem dX7_item_82 : decode cX7_item 82 = .ok (.bipush 32, 2) := by decide +kernel
theorem dX7_item_84 : decode cX7_item 84 = .ok (.lshl, 1) := by decide +kernel
theorem dX7_item_85 : decode cX7_item 85 = .ok (.bipush 32, 2) := by decide +kernel
theorem dX7_item_87 : decode cX7_item 87 = .ok (.lshr, 1) := by decide +kernel
theorem dX7_item_88 : decode cX7_item 88 = .ok (.goto 5, 3) := by decide +kernel
theorem dX7_item_91 : decode cX7_item 91 = .ok (.lload 4, 2) := by decide +kernel
theorem dX7_item_93 : decode cX7_item 93 = .ok (.lastore, 1) := by decide +kernel
theorem dX7_item_94 : decode cX7_item 94 = .ok (.iconst 1, 1) := by decide +kernel
theorem dX7_item_95 : decode cX7_item 95 = .ok (.ireturn, 1) := by decide +kernel
theorem dX7_copy_0 : decode cX7_copy 0 = .ok (.iload_n 1, 1) := by decide +kernel
theorem dX7_copy_1 : decode cX7_copy 1 = .ok (.invokestatic 219, 3) := by decide +kernel
theorem dX7_copy_4 : decode cX7_copy 4 = .ok (.ifCond .eq 10, 3) := by decide +kernel
theorem dX7_copy_7 : decode cX7_copy 7 = .ok (.iload_n 3, 1) := by decide +kernel
theorem dX7_copy_8 : decode cX7_copy 8 = .ok (.invokestatic 219, 3) := by decide +kernel
theorem dX7_copy_11 : decode cX7_copy 11 = .ok (.ifCond .ne 5, 3) := by decide +kernel
theorem dX7_copy_14 : decode cX7_copy 14 = .ok (.iconst (-1), 1) := by decide +kernel
theorem dX7_copy_15 : decode cX7_copy 15 = .ok (.ireturn, 1) := by decide +kernel
theorem dX7_copy_16 : decode cX7_copy 16 = .ok (.aload_n 0, 1) := by decide +kernel
theorem dX7_copy_17 : decode cX7_copy 17 = .ok (.getfield 42, 3) := by decide +kernel
theorem dX7_copy_20 : decode cX7_copy 20 = .ok (.iload_n 1, 1) := by decide +kernel
theorem dX7_copy_21 : decode cX7_copy 21 = .ok (.iaload, 1) := by decide +kernel
theorem dX7_copy_22 : decode cX7_copy 22 = .ok (.ifCond .lt 12, 3) := by decide +kernel
theorem dX7_copy_25 : decode cX7_copy 25 = .ok (.aload_n 0, 1) := by decide +kernel
theorem dX7_copy_26 : decode cX7_copy 26 = .ok (.getfield 42, 3) := by decide +kernel
theorem dX7_copy_29 : decode cX7_copy 29 = .ok (.iload_n 3, 1) := by decide +kernel
theorem dX7_copy_30 : decode cX7_copy 30 = .ok (.iaload, 1) := by decide +kernel
theorem dX7_copy_31 : decode cX7_copy 31 = .ok (.ifCond .ge 6, 3) := by decide +kernel
theorem dX7_copy_34 : decode cX7_copy 34 = .ok (.bipush (-11), 2) := by decide +kernel
theorem dX7_copy_36 : decode cX7_copy 36 = .ok (.ireturn, 1) := by decide +kernel
theorem dX7_copy_37 : decode cX7_copy 37 = .ok (.aload_n 0, 1) := by decide +kernel
theorem dX7_copy_38 : decode cX7_copy 38 = .ok (.getfield 39, 3) := by decide +kernel
theorem dX7_copy_41 : decode cX7_copy 41 = .ok (.iload_n 1, 1) := by decide +kernel
theorem dX7_copy_42 : decode cX7_copy 42 = .ok (.iaload, 1) := by decide +kernel
theorem dX7_copy_43 : decode cX7_copy 43 = .ok (.aload_n 0, 1) := by decide +kernel
theorem dX7_copy_44 : decode cX7_copy 44 = .ok (.getfield 39, 3) := by decide +kernel
theorem dX7_copy_47 : decode cX7_copy 47 = .ok (.iload_n 3, 1) := by decide +kernel
theorem dX7_copy_48 : decode cX7_copy 48 = .ok (.iaload, 1) := by decide +kernel
theorem dX7_copy_49 : decode cX7_copy 49 = .ok (.if_icmp .eq 6, 3) := by decide +kernel
theorem dX7_copy_52 : decode cX7_copy 52 = .ok (.bipush (-12), 2) := by decide +kernel
theorem dX7_copy_54 : decode cX7_copy 54 = .ok (.ireturn, 1) := by decide +kernel
theorem dX7_copy_55 : decode cX7_copy 55 = .ok (.aload_n 0, 1) := by decide +kernel
theorem dX7_copy_56 : decode cX7_copy 56 = .ok (.iload_n 1, 1) := by decide +kernel
theorem dX7_copy_57 : decode cX7_copy 57 = .ok (.iload_n 2, 1) := by decide +kernel
theorem dX7_copy_58 : decode cX7_copy 58 = .ok (.iload 5, 2) := by decide +kernel
theorem dX7_copy_60 : decode cX7_copy 60 = .ok (.invokevirtual 211, 3) := by decide +kernel
theorem dX7_copy_63 : decode cX7_copy 63 = .ok (.ifCond .eq 15, 3) := by decide +kernel
theorem dX7_copy_66 : decode cX7_copy 66 = .ok (.aload_n 0, 1) := by decide +kernel
theorem dX7_copy_67 : decode cX7_copy 67 = .ok (.iload_n 3, 1) := by decide +kernel
theorem dX7_copy_68 : decode cX7_copy 68 = .ok (.iload 4, 2) := by decide +kernel
theorem dX7_copy_70 : decode cX7_copy 70 = .ok (.iload 5, 2) := by decide +kernel
theorem dX7_copy_72 : decode cX7_copy 72 = .ok (.invokevirtual 211, 3) := by decide +kernel
theorem dX7_copy_75 : decode cX7_copy 75 = .ok (.ifCond .ne 6, 3) := by decide +kernel
theorem dX7_copy_78 : decode cX7_copy 78 = .ok (.bipush (-13), 2) := by decide +kernel
theorem dX7_copy_80 : decode cX7_copy 80 = .ok (.ireturn, 1) := by decide +kernel
theorem dX7_copy_81 : decode cX7_copy 81 = .ok (.iconst 0, 1) := by decide +kernel
theorem dX7_copy_82 : decode cX7_copy 82 = .ok (.istore 6, 2) := by decide +kernel
theorem dX7_copy_84 : decode cX7_copy 84 = .ok (.iload 6, 2) := by decide +kernel
theorem dX7_copy_86 : decode cX7_copy 86 = .ok (.iload 5, 2) := by decide +kernel
theorem dX7_copy_88 : decode cX7_copy 88 = .ok (.if_icmp .ge 58, 3) := by decide +kernel
theorem dX7_copy_91 : decode cX7_copy 91 = .ok (.iload_n 2, 1) := by decide +kernel
theorem dX7_copy_92 : decode cX7_copy 92 = .ok (.iload 4, 2) := by decide +kernel
theorem dX7_copy_94 : decode cX7_copy 94 = .ok (.if_icmp .lt 8, 3) := by decide +kernel
theorem dX7_copy_97 : decode cX7_copy 97 = .ok (.iload 6, 2) := by decide +kernel
theorem dX7_copy_99 : decode cX7_copy 99 = .ok (.goto 10, 3) := by decide +kernel
theorem dX7_copy_102 : decode cX7_copy 102 = .ok (.iload 5, 2) := by decide +kernel
theorem dX7_copy_104 : decode cX7_copy 104 = .ok (.iconst 1, 1) := by decide +kernel
theorem dX7_copy_105 : decode cX7_copy 105 = .ok (.isub, 1) := by decide +kernel
theorem dX7_copy_106 : decode cX7_copy 106 = .ok (.iload 6, 2) := by decide +kernel
theorem dX7_copy_108 : decode cX7_copy 108 = .ok (.isub, 1) := by decide +kernel
theorem dX7_copy_109 : decode cX7_copy 109 = .ok (.istore 7, 2) := by decide +kernel
theorem dX7_copy_111 : decode cX7_copy 111 = .ok (.aload_n 0, 1) := by decide +kernel
theorem dX7_copy_112 : decode cX7_copy 112 = .ok (.getfield 35, 3) := by decide +kernel
theorem dX7_copy_115 : decode cX7_copy 115 = .ok (.bipush 24, 2) := by decide +kernel
theorem dX7_copy_117 : decode cX7_copy 117 = .ok (.iload_n 3, 1) := by decide +kernel
theorem dX7_copy_118 : decode cX7_copy 118 = .ok (.imul, 1) := by decide +kernel
theorem dX7_copy_119 : decode cX7_copy 119 = .ok (.iload 4, 2) := by decide +kernel
theorem dX7_copy_121 : decode cX7_copy 121 = .ok (.iadd, 1) := by decide +kernel
theorem dX7_copy_122 : decode cX7_copy 122 = .ok (.iload 7, 2) := by decide +kernel
theorem dX7_copy_124 : decode cX7_copy 124 = .ok (.iadd, 1) := by decide +kernel
theorem dX7_copy_125 : decode cX7_copy 125 = .ok (.aload_n 0, 1) := by decide +kernel
theorem dX7_copy_126 : decode cX7_copy 126 = .ok (.getfield 35, 3) := by decide +kernel
theorem dX7_copy_129 : decode cX7_copy 129 = .ok (.bipush 24, 2) := by decide +kernel
theorem dX7_copy_131 : decode cX7_copy 131 = .ok (.iload_n 1, 1) := by decide +kernel
theorem dX7_copy_132 : decode cX7_copy 132 = .ok (.imul, 1) := by decide +kernel
theorem dX7_copy_133 : decode cX7_copy 133 = .ok (.iload_n 2, 1) := by decide +kernel
theorem dX7_copy_134 : decode cX7_copy 134 = .ok (.iadd, 1) := by decide +kernel
theorem dX7_copy_135 : decode cX7_copy 135 = .ok (.iload 7, 2) := by decide +kernel
theorem dX7_copy_137 : decode cX7_copy 137 = .ok (.iadd, 1) := by decide +kernel
theorem dX7_copy_138 : decode cX7_copy 138 = .ok (.laload, 1) := by decide +kernel
theorem dX7_copy_139 : decode cX7_copy 139 = .ok (.lastore, 1) := by decide +kernel
theorem dX7_copy_140 : decode cX7_copy 140 = .ok (.iinc 6 1, 3) := by decide +kernel
theorem dX7_copy_143 : decode cX7_copy 143 = .ok (.goto (-59), 3) := by decide +kernel
theorem dX7_copy_146 : decode cX7_copy 146 = .ok (.iload 5, 2) := by decide +kernel
theorem dX7_copy_148 : decode cX7_copy 148 = .ok (.ireturn, 1) := by decide +kernel
