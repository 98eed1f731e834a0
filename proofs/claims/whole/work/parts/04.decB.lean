theorem dX10_init_0 : decode cX10_init 0 = .ok (.aload_n 0, 1) := by decide +kernel
theorem dX10_init_1 : decode cX10_init 1 = .ok (.invokespecial 1, 3) := by decide +kernel
theorem dX10_init_4 : decode cX10_init 4 = .ok (.aload_n 0, 1) := by decide +kernel
theorem dX10_init_5 : decode cX10_init 5 = .ok (.sipush 700, 3) := by decide +kernel
theorem dX10_init_8 : decode cX10_init 8 = .ok (.newarray .byte, 2) := by decide +kernel
theorem dX10_init_10 : decode cX10_init 10 = .ok (.putfield 9, 3) := by decide +kernel
theorem dX10_init_13 : decode cX10_init 13 = .ok (.aload_n 0, 1) := by decide +kernel
theorem dX10_init_14 : decode cX10_init 14 = .ok (.iconst (-1), 1) := by decide +kernel
theorem dX10_init_15 : decode cX10_init 15 = .ok (.putfield 13, 3) := by decide +kernel
theorem dX10_init_18 : decode cX10_init 18 = .ok (.aload_n 0, 1) := by decide +kernel
theorem dX10_init_19 : decode cX10_init 19 = .ok (.new 17, 3) := by decide +kernel
theorem dX10_init_22 : decode cX10_init 22 = .ok (.dup, 1) := by decide +kernel
theorem dX10_init_23 : decode cX10_init 23 = .ok (.aload_n 0, 1) := by decide +kernel
theorem dX10_init_24 : decode cX10_init 24 = .ok (.getfield 9, 3) := by decide +kernel
theorem dX10_init_27 : decode cX10_init 27 = .ok (.invokespecial 19, 3) := by decide +kernel
theorem dX10_init_30 : decode cX10_init 30 = .ok (.putfield 22, 3) := by decide +kernel
theorem dX10_init_33 : decode cX10_init 33 = .ok (.aload_n 0, 1) := by decide +kernel
theorem dX10_init_34 : decode cX10_init 34 = .ok (.new 26, 3) := by decide +kernel
theorem dX10_init_37 : decode cX10_init 37 = .ok (.dup, 1) := by decide +kernel
theorem dX10_init_38 : decode cX10_init 38 = .ok (.invokespecial 28, 3) := by decide +kernel
theorem dX10_init_41 : decode cX10_init 41 = .ok (.putfield 29, 3) := by decide +kernel
theorem dX10_init_44 : decode cX10_init 44 = .ok (.aload_n 0, 1) := by decide +kernel
theorem dX10_init_45 : decode cX10_init 45 = .ok (.new 33, 3) := by decide +kernel
theorem dX10_init_48 : decode cX10_init 48 = .ok (.dup, 1) := by decide +kernel
theorem dX10_init_49 : decode cX10_init 49 = .ok (.aload_n 0, 1) := by decide +kernel
theorem dX10_init_50 : decode cX10_init 50 = .ok (.getfield 29, 3) := by decide +kernel
theorem dX10_init_53 : decode cX10_init 53 = .ok (.invokespecial 35, 3) := by decide +kernel
theorem dX10_init_56 : decode cX10_init 56 = .ok (.putfield 38, 3) := by decide +kernel
theorem dX10_init_59 : decode cX10_init 59 = .ok (.aload_n 0, 1) := by decide +kernel
theorem dX10_init_60 : decode cX10_init 60 = .ok (.new 33, 3) := by decide +kernel
theorem dX10_init_63 : decode cX10_init 63 = .ok (.dup, 1) := by decide +kernel
theorem dX10_init_64 : decode cX10_init 64 = .ok (.aload_n 0, 1) := by decide +kernel
theorem dX10_init_65 : decode cX10_init 65 = .ok (.getfield 29, 3) := by decide +kernel
theorem dX10_init_68 : decode cX10_init 68 = .ok (.invokespecial 35, 3) := by decide +kernel
theorem dX10_init_71 : decode cX10_init 71 = .ok (.putfield 42, 3) := by decide +kernel
theorem dX10_init_74 : decode cX10_init 74 = .ok (.aload_n 0, 1) := by decide +kernel
theorem dX10_init_75 : decode cX10_init 75 = .ok (.new 33, 3) := by decide +kernel
theorem dX10_init_78 : decode cX10_init 78 = .ok (.dup, 1) := by decide +kernel
theorem dX10_init_79 : decode cX10_init 79 = .ok (.aload_n 0, 1) := by decide +kernel
theorem dX10_init_80 : decode cX10_init 80 = .ok (.getfield 29, 3) := by decide +kernel
theorem dX10_init_83 : decode cX10_init 83 = .ok (.invokespecial 35, 3) := by decide +kernel
theorem dX10_init_86 : decode cX10_init 86 = .ok (.putfield 45, 3) := by decide +kernel
theorem dX10_init_89 : decode cX10_init 89 = .ok (.aload_n 0, 1) := by decide +kernel
theorem dX10_init_90 : decode cX10_init 90 = .ok (.new 33, 3) := by decide +kernel
theorem dX10_init_93 : decode cX10_init 93 = .ok (.dup, 1) := by decide +kernel
theorem dX10_init_94 : decode cX10_init 94 = .ok (.aload_n 0, 1) := by decide +kernel
theorem dX10_init_95 : decode cX10_init 95 = .ok (.getfield 29, 3) := by decide +kernel
theorem dX10_init_98 : decode cX10_init 98 = .ok (.invokespecial 35, 3) := by decide +kernel
theorem dX10_init_101 : decode cX10_init 101 = .ok (.putfield 48, 3) := by decide +kernel
theorem dX10_init_104 : decode cX10_init 104 = .ok (.aload_n 0, 1) := by decide +kernel
theorem dX10_init_105 : decode cX10_init 105 = .ok (.bipush 20, 2) := by decide +kernel
theorem dX10_init_107 : decode cX10_init 107 = .ok (.anewarray 33, 3) := by decide +kernel
theorem dX10_init_110 : decode cX10_init 110 = .ok (.putfield 51, 3) := by decide +kernel
theorem dX10_init_113 : decode cX10_init 113 = .ok (.aload_n 0, 1) := by decide +kernel
theorem dX10_init_114 : decode cX10_init 114 = .ok (.new 55, 3) := by decide +kernel
theorem dX10_init_117 : decode cX10_init 117 = .ok (.dup, 1) := by decide +kernel
theorem dX10_init_118 : decode cX10_init 118 = .ok (.invokespecial 57, 3) := by decide +kernel
theorem dX10_init_121 : decode cX10_init 121 = .ok (.putfield 58, 3) := by decide +kernel
theorem dX10_init_124 : decode cX10_init 124 = .ok (.aload_n 0, 1) := by decide +kernel
theorem dX10_init_125 : decode cX10_init 125 = .ok (.new 62, 3) := by decide +kernel
theorem dX10_init_128 : decode cX10_init 128 = .ok (.dup, 1) := by decide +kernel
theorem dX10_init_129 : decode cX10_init 129 = .ok (.invokespecial 64, 3) := by decide +kernel
theorem dX10_init_132 : decode cX10_init 132 = .ok (.putfield 65, 3) := by decide +kernel
theorem dX10_init_135 : decode cX10_init 135 = .ok (.aload_n 0, 1) := by decide +kernel
theorem dX10_init_136 : decode cX10_init 136 = .ok (.new 69, 3) := by decide +kernel
theorem dX10_init_139 : decode cX10_init 139 = .ok (.dup, 1) := by decide +kernel
theorem dX10_init_140 : decode cX10_init 140 = .ok (.invokespecial 71, 3) := by decide +kernel
theorem dX10_init_143 : decode cX10_init 143 = .ok (.putfield 72, 3) := by decide +kernel
theorem dX10_init_146 : decode cX10_init 146 = .ok (.aload_n 0, 1) := by decide +kernel
theorem dX10_init_147 : decode cX10_init 147 = .ok (.new 76, 3) := by decide +kernel
theorem dX10_init_150 : decode cX10_init 150 = .ok (.dup, 1) := by decide +kernel
theorem dX10_init_151 : decode cX10_init 151 = .ok (.invokespecial 78, 3) := by decide +kernel
theorem dX10_init_154 : decode cX10_init 154 = .ok (.putfield 79, 3) := by decide +kernel
theorem dX10_init_157 : decode cX10_init 157 = .ok (.aload_n 0, 1) := by decide +kernel
theorem dX10_init_158 : decode cX10_init 158 = .ok (.bipush 11, 2) := by decide +kernel
theorem dX10_init_160 : decode cX10_init 160 = .ok (.newarray .int, 2) := by decide +kernel
theorem dX10_init_162 : decode cX10_init 162 = .ok (.putfield 83, 3) := by decide +kernel
theorem dX10_init_165 : decode cX10_init 165 = .ok (.iconst 0, 1) := by decide +kernel
theorem dX10_init_166 : decode cX10_init 166 = .ok (.istore_n 1, 1) := by decide +kernel
theorem dX10_init_167 : decode cX10_init 167 = .ok (.iload_n 1, 1) := by decide +kernel
theorem dX10_init_168 : decode cX10_init 168 = .ok (.bipush 20, 2) := by decide +kernel
theorem dX10_init_170 : decode cX10_init 170 = .ok (.if_icmp .ge 26, 3) := by decide +kernel
theorem dX10_init_173 : decode cX10_init 173 = .ok (.aload_n 0, 1) := by decide +kernel
theorem dX10_init_174 : decode cX10_init 174 = .ok (.getfield 51, 3) := by decide +kernel
theorem dX10_init_177 : decode cX10_init 177 = .ok (.iload_n 1, 1) := by decide +kernel
theorem dX10_init_178 : decode cX10_init 178 = .ok (.new 33, 3) := by decide +kernel
theorem dX10_init_181 : decode cX10_init 181 = .ok (.dup, 1) := by decide +kernel
theorem dX10_init_182 : decode cX10_init 182 = .ok (.aload_n 0, 1) := by decide +kernel
theorem dX10_init_183 : decode cX10_init 183 = .ok (.getfield 29, 3) := by decide +kernel
theorem dX10_init_186 : decode cX10_init 186 = .ok (.invokespecial 35, 3) := by decide +kernel
theorem dX10_init_189 : decode cX10_init 189 = .ok (.aastore, 1) := by decide +kernel
theorem dX10_init_190 : decode cX10_init 190 = .ok (.iinc 1 1, 3) := by decide +kernel
theorem dX10_init_193 : decode cX10_init 193 = .ok (.goto (-26), 3) := by decide +kernel
theorem dX10_init_196 : decode cX10_init 196 = .ok (.return_, 1) := by decide +kernel
theorem dX10_feed_0 : decode cX10_feed 0 = .ok (.aload_n 0, 1) := by decide +kernel
theorem dX10_feed_1 : decode cX10_feed 1 = .ok (.getfield 87, 3) := by decide +kernel
theorem dX10_feed_4 : decode cX10_feed 4 = .ok (.bipush 20, 2) := by decide +kernel
theorem dX10_feed_6 : decode cX10_feed 6 = .ok (.iadd, 1) := by decide +kernel
theorem dX10_feed_7 : decode cX10_feed 7 = .ok (.sipush 700, 3) := by decide +kernel
theorem dX10_feed_10 : decode cX10_feed 10 = .ok (.if_icmp .le 5, 3) := by decide +kernel
theorem dX10_feed_13 : decode cX10_feed 13 = .ok (.iconst (-1), 1) := by decide +kernel
theorem dX10_feed_14 : decode cX10_feed 14 = .ok (.ireturn, 1) := by decide +kernel
theorem dX10_feed_15 : decode cX10_feed 15 = .ok (.aload_n 0, 1) := by decide +kernel
theorem dX10_feed_16 : decode cX10_feed 16 = .ok (.iload_n 1, 1) := by decide +kernel
theorem dX10_feed_17 : decode cX10_feed 17 = .ok (.invokevirtual 90, 3) := by decide +kernel
theorem dX10_feed_20 : decode cX10_feed 20 = .ok (.aload_n 0, 1) := by decide +kernel
theorem dX10_feed_21 : decode cX10_feed 21 = .ok (.iload_n 2, 1) := by decide +kernel
theorem dX10_feed_22 : decode cX10_feed 22 = .ok (.invokevirtual 90, 3) := by decide +kernel
theorem dX10_feed_25 : decode cX10_feed 25 = .ok (.aload_n 0, 1) := by decide +kernel
theorem dX10_feed_26 : decode cX10_feed 26 = .ok (.iload_n 3, 1) := by decide +kernel
theorem dX10_feed_27 : decode cX10_feed 27 = .ok (.invokevirtual 90, 3) := by decide +kernel
theorem dX10_feed_30 : decode cX10_feed 30 = .ok (.aload_n 0, 1) := by decide +kernel
theorem dX10_feed_31 : decode cX10_feed 31 = .ok (.iload 4, 2) := by decide +kernel
theorem dX10_feed_33 : decode cX10_feed 33 = .ok (.invokevirtual 90, 3) := by decide +kernel
theorem dX10_feed_36 : decode cX10_feed 36 = .ok (.aload_n 0, 1) := by decide +kernel
theorem dX10_feed_37 : decode cX10_feed 37 = .ok (.iload 5, 2) := by decide +kernel
theorem dX10_feed_39 : decode cX10_feed 39 = .ok (.invokevirtual 90, 3) := by decide +kernel
theorem dX10_feed_42 : decode cX10_feed 42 = .ok (.aload_n 0, 1) := by decide +kernel
theorem dX10_feed_43 : decode cX10_feed 43 = .ok (.getfield 87, 3) := by decide +kernel
theorem dX10_feed_46 : decode cX10_feed 46 = .ok (.ireturn, 1) := by decide +kernel
theorem dX10_putNumber_0 : decode cX10_putNumber 0 = .ok (.bipush 24, 2) := by decide +kernel
theorem dX10_putNumber_2 : decode cX10_putNumber 2 = .ok (.istore_n 2, 1) := by decide +kernel
theorem dX10_putNumber_3 : decode cX10_putNumber 3 = .ok (.iload_n 2, 1) := by decide +kernel
theorem dX10_putNumber_4 : decode cX10_putNumber 4 = .ok (.ifCond .lt 42, 3) := by decide +kernel
theorem dX10_putNumber_7 : decode cX10_putNumber 7 = .ok (.aload_n 0, 1) := by decide +kernel
theorem dX10_putNumber_8 : decode cX10_putNumber 8 = .ok (.getfield 87, 3) := by decide +kernel
theorem dX10_putNumber_11 : decode cX10_putNumber 11 = .ok (.sipush 700, 3) := by decide +kernel
theorem dX10_putNumber_14 : decode cX10_putNumber 14 = .ok (.if_icmp .ge 32, 3) := by decide +kernel
theorem dX10_putNumber_17 : decode cX10_putNumber 17 = .ok (.aload_n 0, 1) := by decide +kernel
theorem dX10_putNumber_18 : decode cX10_putNumber 18 = .ok (.getfield 9, 3) := by decide +kernel
theorem dX10_putNumber_21 : decode cX10_putNumber 21 = .ok (.aload_n 0, 1) := by decide +kernel
theorem dX10_putNumber_22 : decode cX10_putNumber 22 = .ok (.getfield 87, 3) := by decide +kernel
theorem dX10_putNumber_25 : decode cX10_putNumber 25 = .ok (.iload_n 1, 1) := by decide +kernel
theorem dX10_putNumber_26 : decode cX10_putNumber 26 = .ok (.iload_n 2, 1) := by decide +kernel
theorem dX10_putNumber_27 : decode cX10_putNumber 27 = .ok (.ishr, 1) := by decide +kernel
theorem dX10_putNumber_28 : decode cX10_putNumber 28 = .ok (.i2b, 1) := by decide +kernel
theorem dX10_putNumber_29 : decode cX10_putNumber 29 = .ok (.bastore, 1) := by decide +kernel
theorem dX10_putNumber_30 : decode cX10_putNumber 30 = .ok (.aload_n 0, 1) := by decide +kernel
theorem dX10_putNumber_31 : decode cX10_putNumber 31 = .ok (.dup, 1) := by decide +kernel
theorem dX10_putNumber_32 : decode cX10_putNumber 32 = .ok (.getfield 87, 3) := by decide +kernel
theorem dX10_putNumber_35 : decode cX10_putNumber 35 = .ok (.iconst 1, 1) := by decide +kernel
theorem dX10_putNumber_36 : decode cX10_putNumber 36 = .ok (.iadd, 1) := by decide +kernel
theorem dX10_putNumber_37 : decode cX10_putNumber 37 = .ok (.putfield 87, 3) := by decide +kernel
theorem dX10_putNumber_40 : decode cX10_putNumber 40 = .ok (.iinc 2 (-8), 3) := by decide +kernel
theorem dX10_putNumber_43 : decode cX10_putNumber 43 = .ok (.goto (-40), 3) := by decide +kernel
theorem dX10_putNumber_46 : decode cX10_putNumber 46 = .ok (.return_, 1) := by decide +kernel
theorem dX10_text_0 : decode cX10_text 0 = .ok (.iload_n 1, 1) := by decide +kernel
theorem dX10_text_1 : decode cX10_text 1 = .ok (.ifCond .lt 11, 3) := by decide +kernel
theorem dX10_text_4 : decode cX10_text 4 = .ok (.iload_n 1, 1) := by decide +kernel
theorem dX10_text_5 : decode cX10_text 5 = .ok (.aload_n 0, 1) := by decide +kernel
theorem dX10_text_6 : decode cX10_text 6 = .ok (.getfield 87, 3) := by decide +kernel
theorem dX10_text_9 : decode cX10_text 9 = .ok (.if_icmp .le 6, 3) := by decide +kernel
theorem dX10_text_12 : decode cX10_text 12 = .ok (.bipush (-2), 2) := by decide +kernel
theorem dX10_text_14 : decode cX10_text 14 = .ok (.ireturn, 1) := by decide +kernel
theorem dX10_text_15 : decode cX10_text 15 = .ok (.aload_n 0, 1) := by decide +kernel
theorem dX10_text_16 : decode cX10_text 16 = .ok (.iconst 0, 1) := by decide +kernel
theorem dX10_text_17 : decode cX10_text 17 = .ok (.putfield 87, 3) := by decide +kernel
theorem dX10_text_20 : decode cX10_text 20 = .ok (.iconst 1, 1) := by decide +kernel
theorem dX10_text_21 : decode cX10_text 21 = .ok (.istore_n 2, 1) := by decide +kernel
theorem dX10_text_22 : decode cX10_text 22 = .ok (.aload_n 0, 1) := by decide +kernel
theorem dX10_text_23 : decode cX10_text 23 = .ok (.getfield 22, 3) := by decide +kernel
theorem dX10_text_26 : decode cX10_text 26 = .ok (.iload_n 1, 1) := by decide +kernel
theorem dX10_text_27 : decode cX10_text 27 = .ok (.invokevirtual 94, 3) := by decide +kernel
theorem dX10_text_30 : decode cX10_text 30 = .ok (.iconst 0, 1) := by decide +kernel
theorem dX10_text_31 : decode cX10_text 31 = .ok (.istore_n 3, 1) := by decide +kernel
theorem dX10_text_32 : decode cX10_text 32 = .ok (.iload_n 3, 1) := by decide +kernel
theorem dX10_text_33 : decode cX10_text 33 = .ok (.sipush 700, 3) := by decide +kernel
theorem dX10_text_36 : decode cX10_text 36 = .ok (.if_icmp .ge 31, 3) := by decide +kernel
theorem dX10_text_39 : decode cX10_text 39 = .ok (.iload_n 2, 1) := by decide +kernel
theorem dX10_text_40 : decode cX10_text 40 = .ok (.ifCond .eq 27, 3) := by decide +kernel
theorem dX10_text_43 : decode cX10_text 43 = .ok (.aload_n 0, 1) := by decide +kernel
theorem dX10_text_44 : decode cX10_text 44 = .ok (.getfield 22, 3) := by decide +kernel
theorem dX10_text_47 : decode cX10_text 47 = .ok (.invokevirtual 97, 3) := by decide +kernel
theorem dX10_text_50 : decode cX10_text 50 = .ok (.ifCond .eq 17, 3) := by decide +kernel
theorem dX10_text_53 : decode cX10_text 53 = .ok (.aload_n 0, 1) := by decide +kernel
theorem dX10_text_54 : decode cX10_text 54 = .ok (.getfield 22, 3) := by decide +kernel
theorem dX10_text_57 : decode cX10_text 57 = .ok (.invokevirtual 101, 3) := by decide +kernel
theorem dX10_text_60 : decode cX10_text 60 = .ok (.istore_n 2, 1) := by decide +kernel
theorem dX10_text_61 : decode cX10_text 61 = .ok (.iinc 3 1, 3) := by decide +kernel
theorem dX10_text_64 : decode cX10_text 64 = .ok (.goto (-32), 3) := by decide +kernel
theorem dX10_text_67 : decode cX10_text 67 = .ok (.aload_n 0, 1) := by decide +kernel
theorem dX10_text_68 : decode cX10_text 68 = .ok (.aload_n 0, 1) := by decide +kernel
theorem dX10_text_69 : decode cX10_text 69 = .ok (.getfield 22, 3) := by decide +kernel
theorem dX10_text_72 : decode cX10_text 72 = .ok (.getfield 104, 3) := by decide +kernel
theorem dX10_text_75 : decode cX10_text 75 = .ok (.putfield 107, 3) := by decide +kernel
theorem dX10_text_78 : decode cX10_text 78 = .ok (.aload_n 0, 1) := by decide +kernel
theorem dX10_text_79 : decode cX10_text 79 = .ok (.aload_n 0, 1) := by decide +kernel
theorem dX10_text_80 : decode cX10_text 80 = .ok (.getfield 22, 3) := by decide +kernel
theorem dX10_text_83 : decode cX10_text 83 = .ok (.getfield 108, 3) := by decide +kernel
theorem dX10_text_86 : decode cX10_text 86 = .ok (.putfield 13, 3) := by decide +kernel
theorem dX10_text_89 : decode cX10_text 89 = .ok (.iload_n 2, 1) := by decide +kernel
theorem dX10_text_90 : decode cX10_text 90 = .ok (.ifCond .ne 5, 3) := by decide +kernel
theorem dX10_text_93 : decode cX10_text 93 = .ok (.iconst (-1), 1) := by decide +kernel
theorem dX10_text_94 : decode cX10_text 94 = .ok (.ireturn, 1) := by decide +kernel
theorem dX10_text_95 : decode cX10_text 95 = .ok (.aload_n 0, 1) := by decide +kernel
theorem dX10_text_96 : decode cX10_text 96 = .ok (.invokevirtual 109, 3) := by decide +kernel
theorem dX10_text_99 : decode cX10_text 99 = .ok (.aload_n 0, 1) := by decide +kernel
theorem dX10_text_100 : decode cX10_text 100 = .ok (.getfield 29, 3) := by decide +kernel
theorem dX10_text_103 : decode cX10_text 103 = .ok (.getfield 112, 3) := by decide +kernel
theorem dX10_text_106 : decode cX10_text 106 = .ok (.ireturn, 1) := by decide +kernel
theorem dX10_takeTold_0 : decode cX10_takeTold 0 = .ok (.aload_n 0, 1) := by decide +kernel
theorem dX10_takeTold_1 : decode cX10_takeTold 1 = .ok (.getfield 29, 3) := by decide +kernel
theorem dX10_takeTold_4 : decode cX10_takeTold 4 = .ok (.astore_n 1, 1) := by decide +kernel
theorem dX10_takeTold_5 : decode cX10_takeTold 5 = .ok (.aload_n 0, 1) := by decide +kernel
theorem dX10_takeTold_6 : decode cX10_takeTold 6 = .ok (.aload_n 0, 1) := by decide +kernel
theorem dX10_takeTold_7 : decode cX10_takeTold 7 = .ok (.getfield 22, 3) := by decide +kernel
theorem dX10_takeTold_10 : decode cX10_takeTold 10 = .ok (.getfield 115, 3) := by decide +kernel
theorem dX10_takeTold_13 : decode cX10_takeTold 13 = .ok (.putfield 29, 3) := by decide +kernel
theorem dX10_takeTold_16 : decode cX10_takeTold 16 = .ok (.aload_n 0, 1) := by decide +kernel
theorem dX10_takeTold_17 : decode cX10_takeTold 17 = .ok (.getfield 22, 3) := by decide +kernel
theorem dX10_takeTold_20 : decode cX10_takeTold 20 = .ok (.aload_n 1, 1) := by decide +kernel
theorem dX10_takeTold_21 : decode cX10_takeTold 21 = .ok (.putfield 115, 3) := by decide +kernel
theorem dX10_takeTold_24 : decode cX10_takeTold 24 = .ok (.aload_n 0, 1) := by decide +kernel
theorem dX10_takeTold_25 : decode cX10_takeTold 25 = .ok (.getfield 38, 3) := by decide +kernel
theorem dX10_takeTold_28 : decode cX10_takeTold 28 = .ok (.aload_n 0, 1) := by decide +kernel
theorem dX10_takeTold_29 : decode cX10_takeTold 29 = .ok (.getfield 22, 3) := by decide +kernel
theorem dX10_takeTold_32 : decode cX10_takeTold 32 = .ok (.getfield 116, 3) := by decide +kernel
theorem dX10_takeTold_35 : decode cX10_takeTold 35 = .ok (.invokevirtual 119, 3) := by decide +kernel
theorem dX10_takeTold_38 : decode cX10_takeTold 38 = .ok (.aload_n 0, 1) := by decide +kernel
theorem dX10_takeTold_39 : decode cX10_takeTold 39 = .ok (.getfield 42, 3) := by decide +kernel
theorem dX10_takeTold_42 : decode cX10_takeTold 42 = .ok (.aload_n 0, 1) := by decide +kernel
theorem dX10_takeTold_43 : decode cX10_takeTold 43 = .ok (.getfield 38, 3) := by decide +kernel
theorem dX10_takeTold_46 : decode cX10_takeTold 46 = .ok (.invokevirtual 119, 3) := by decide +kernel
theorem dX10_takeTold_49 : decode cX10_takeTold 49 = .ok (.aload_n 0, 1) := by decide +kernel
theorem dX10_takeTold_50 : decode cX10_takeTold 50 = .ok (.iconst 0, 1) := by decide +kernel
theorem dX10_takeTold_51 : decode cX10_takeTold 51 = .ok (.putfield 123, 3) := by decide +kernel
theorem dX10_takeTold_54 : decode cX10_takeTold 54 = .ok (.aload_n 0, 1) := by decide +kernel
theorem dX10_takeTold_55 : decode cX10_takeTold 55 = .ok (.invokevirtual 127, 3) := by decide +kernel
theorem dX10_takeTold_58 : decode cX10_takeTold 58 = .ok (.aload_n 0, 1) := by decide +kernel
theorem dX10_takeTold_59 : decode cX10_takeTold 59 = .ok (.getfield 58, 3) := by decide +kernel
theorem dX10_takeTold_62 : decode cX10_takeTold 62 = .ok (.invokevirtual 130, 3) := by decide +kernel
theorem dX10_takeTold_65 : decode cX10_takeTold 65 = .ok (.return_, 1) := by decide +kernel
theorem dX10_fault_0 : decode cX10_fault 0 = .ok (.iload_n 1, 1) := by decide +kernel
theorem dX10_fault_1 : decode cX10_fault 1 = .ok (.ifCond .ne 8, 3) := by decide +kernel
theorem dX10_fault_4 : decode cX10_fault 4 = .ok (.aload_n 0, 1) := by decide +kernel
theorem dX10_fault_5 : decode cX10_fault 5 = .ok (.getfield 107, 3) := by decide +kernel
theorem dX10_fault_8 : decode cX10_fault 8 = .ok (.ireturn, 1) := by decide +kernel
theorem dX10_fault_9 : decode cX10_fault 9 = .ok (.iload_n 1, 1) := by decide +kernel
theorem dX10_fault_10 : decode cX10_fault 10 = .ok (.iconst 1, 1) := by decide +kernel
theorem dX10_fault_11 : decode cX10_fault 11 = .ok (.if_icmp .ne 10, 3) := by decide +kernel
theorem dX10_fault_14 : decode cX10_fault 14 = .ok (.aload_n 0, 1) := by decide +kernel
theorem dX10_fault_15 : decode cX10_fault 15 = .ok (.getfield 13, 3) := by decide +kernel
theorem dX10_fault_18 : decode cX10_fault 18 = .ok (.goto 4, 3) := by decide +kernel
theorem dX10_fault_21 : decode cX10_fault 21 = .ok (.iconst (-1), 1) := by decide +kernel
theorem dX10_fault_22 : decode cX10_fault 22 = .ok (.ireturn, 1) := by decide +kernel
theorem dX10_named_0 : decode cX10_named 0 = .ok (.aload_n 0, 1) := by decide +kernel
theorem dX10_named_1 : decode cX10_named 1 = .ok (.getfield 29, 3) := by decide +kernel
theorem dX10_named_4 : decode cX10_named 4 = .ok (.iload_n 1, 1) := by decide +kernel
theorem dX10_named_5 : decode cX10_named 5 = .ok (.invokevirtual 133, 3) := by decide +kernel
theorem dX10_named_8 : decode cX10_named 8 = .ok (.ireturn, 1) := by decide +kernel
theorem dX10_person_0 : decode cX10_person 0 = .ok (.aload_n 0, 1) := by decide +kernel
theorem dX10_person_1 : decode cX10_person 1 = .ok (.iload_n 1, 1) := by decide +kernel
theorem dX10_person_2 : decode cX10_person 2 = .ok (.invokevirtual 137, 3) := by decide +kernel
theorem dX10_person_5 : decode cX10_person 5 = .ok (.ifCond .ne 13, 3) := by decide +kernel
theorem dX10_person_8 : decode cX10_person 8 = .ok (.new 141, 3) := by decide +kernel
theorem dX10_person_11 : decode cX10_person 11 = .ok (.dup, 1) := by decide +kernel
theorem dX10_person_12 : decode cX10_person 12 = .ok (.ldc 143, 2) := by decide +kernel
theorem dX10_person_14 : decode cX10_person 14 = .ok (.invokespecial 145, 3) := by decide +kernel
theorem dX10_person_17 : decode cX10_person 17 = .ok (.athrow, 1) := by decide +kernel
theorem dX10_person_18 : decode cX10_person 18 = .ok (.iload_n 2, 1) := by decide +kernel
theorem dX10_person_19 : decode cX10_person 19 = .ok (.tableswitch 97 0 5 #[37, 47, 57, 67, 77, 87], 37) := by decide +kernel
theorem dX10_person_56 : decode cX10_person 56 = .ok (.aload_n 0, 1) := by decide +kernel
theorem dX10_person_57 : decode cX10_person 57 = .ok (.getfield 42, 3) := by decide +kernel
theorem dX10_person_60 : decode cX10_person 60 = .ok (.getfield 148, 3) := by decide +kernel
theorem dX10_person_63 : decode cX10_person 63 = .ok (.iload_n 1, 1) := by decide +kernel
theorem dX10_person_64 : decode cX10_person 64 = .ok (.iaload, 1) := by decide +kernel
theorem dX10_person_65 : decode cX10_person 65 = .ok (.ireturn, 1) := by decide +kernel
theorem dX10_person_66 : decode cX10_person 66 = .ok (.aload_n 0, 1) := by decide +kernel
theorem dX10_person_67 : decode cX10_person 67 = .ok (.getfield 29, 3) := by decide +kernel
theorem dX10_person_70 : decode cX10_person 70 = .ok (.getfield 151, 3) := by decide +kernel
theorem dX10_person_73 : decode cX10_person 73 = .ok (.iload_n 1, 1) := by decide +kernel
theorem dX10_person_74 : decode cX10_person 74 = .ok (.iaload, 1) := by decide +kernel
theorem dX10_person_75 : decode cX10_person 75 = .ok (.ireturn, 1) := by decide +kernel
theorem dX10_person_76 : decode cX10_person 76 = .ok (.aload_n 0, 1) := by decide +kernel
theorem dX10_person_77 : decode cX10_person 77 = .ok (.getfield 29, 3) := by decide +kernel
theorem dX10_person_80 : decode cX10_person 80 = .ok (.getfield 154, 3) := by decide +kernel
theorem dX10_person_83 : decode cX10_person 83 = .ok (.iload_n 1, 1) := by decide +kernel
theorem dX10_person_84 : decode cX10_person 84 = .ok (.iaload, 1) := by decide +kernel
theorem dX10_person_85 : decode cX10_person 85 = .ok (.ireturn, 1) := by decide +kernel
theorem dX10_person_86 : decode cX10_person 86 = .ok (.aload_n 0, 1) := by decide +kernel
theorem dX10_person_87 : decode cX10_person 87 = .ok (.getfield 42, 3) := by decide +kernel
theorem dX10_person_90 : decode cX10_person 90 = .ok (.getfield 157, 3) := by decide +kernel
theorem dX10_person_93 : decode cX10_person 93 = .ok (.iload_n 1, 1) := by decide +kernel
theorem dX10_person_94 : decode cX10_person 94 = .ok (.iaload, 1) := by decide +kernel
theorem dX10_person_95 : decode cX10_person 95 = .ok (.ireturn, 1) := by decide +kernel
theorem dX10_person_96 : decode cX10_person 96 = .ok (.aload_n 0, 1) := by decide +kernel
theorem dX10_person_97 : decode cX10_person 97 = .ok (.getfield 42, 3) := by decide +kernel
theorem dX10_person_100 : decode cX10_person 100 = .ok (.iload_n 1, 1) := by decide +kernel
theorem dX10_person_101 : decode cX10_person 101 = .ok (.iconst (-1), 1) := by decide +kernel
theorem dX10_person_102 : decode cX10_person 102 = .ok (.invokevirtual 160, 3) := by decide +kernel
theorem dX10_person_105 : decode cX10_person 105 = .ok (.ireturn, 1) := by decide +kernel
theorem dX10_person_106 : decode cX10_person 106 = .ok (.aload_n 0, 1) := by decide +kernel
theorem dX10_person_107 : decode cX10_person 107 = .ok (.getfield 42, 3) := by decide +kernel
theorem dX10_person_110 : decode cX10_person 110 = .ok (.iconst (-1), 1) := by decide +kernel
theorem dX10_person_111 : decode cX10_person 111 = .ok (.iload_n 1, 1) := by decide +kernel
theorem dX10_person_112 : decode cX10_person 112 = .ok (.invokevirtual 160, 3) := by decide +kernel
theorem dX10_person_115 : decode cX10_person 115 = .ok (.ireturn, 1) := by decide +kernel
theorem dX10_person_116 : decode cX10_person 116 = .ok (.new 164, 3) := by decide +kernel
theorem dX10_person_119 : decode cX10_person 119 = .ok (.dup, 1) := by decide +kernel
theorem dX10_person_120 : decode cX10_person 120 = .ok (.ldc 166, 2) := by decide +kernel
theorem dX10_person_122 : decode cX10_person 122 = .ok (.invokespecial 168, 3) := by decide +kernel
theorem dX10_person_125 : decode cX10_person 125 = .ok (.athrow, 1) := by decide +kernel
theorem dX10_isPerson_0 : decode cX10_isPerson 0 = .ok (.iload_n 1, 1) := by decide +kernel
theorem dX10_isPerson_1 : decode cX10_isPerson 1 = .ok (.ifCond .lt 18, 3) := by decide +kernel
theorem dX10_isPerson_4 : decode cX10_isPerson 4 = .ok (.iload_n 1, 1) := by decide +kernel
theorem dX10_isPerson_5 : decode cX10_isPerson 5 = .ok (.aload_n 0, 1) := by decide +kernel
theorem dX10_isPerson_6 : decode cX10_isPerson 6 = .ok (.getfield 29, 3) := by decide +kernel
theorem dX10_isPerson_9 : decode cX10_isPerson 9 = .ok (.getfield 169, 3) := by decide +kernel
theorem dX10_isPerson_12 : decode cX10_isPerson 12 = .ok (.if_icmp .ge 7, 3) := by decide +kernel
theorem dX10_isPerson_15 : decode cX10_isPerson 15 = .ok (.iconst 1, 1) := by decide +kernel
theorem dX10_isPerson_16 : decode cX10_isPerson 16 = .ok (.goto 4, 3) := by decide +kernel
theorem dX10_isPerson_19 : decode cX10_isPerson 19 = .ok (.iconst 0, 1) := by decide +kernel
theorem dX10_isPerson_20 : decode cX10_isPerson 20 = .ok (.ireturn, 1) := by decide +kernel
theorem dX10_strand_0 : decode cX10_strand 0 = .ok (.aload_n 0, 1) := by decide +kernel
theorem dX10_strand_1 : decode cX10_strand 1 = .ok (.getfield 42, 3) := by decide +kernel
theorem dX10_strand_4 : decode cX10_strand 4 = .ok (.iload_n 1, 1) := by decide +kernel
theorem dX10_strand_5 : decode cX10_strand 5 = .ok (.invokevirtual 172, 3) := by decide +kernel
theorem dX10_strand_8 : decode cX10_strand 8 = .ok (.ifCond .ne 5, 3) := by decide +kernel
theorem dX10_strand_11 : decode cX10_strand 11 = .ok (.iconst (-1), 1) := by decide +kernel
theorem dX10_strand_12 : decode cX10_strand 12 = .ok (.ireturn, 1) := by decide +kernel
theorem dX10_strand_13 : decode cX10_strand 13 = .ok (.iload_n 2, 1) := by decide +kernel
theorem dX10_strand_14 : decode cX10_strand 14 = .ok (.tableswitch 147 0 8 #[50, 60, 70, 80, 90, 100, 110, 127, 137], 50) := by decide +kernel
theorem dX10_strand_64 : decode cX10_strand 64 = .ok (.aload_n 0, 1) := by decide +kernel
theorem dX10_strand_65 : decode cX10_strand 65 = .ok (.getfield 42, 3) := by decide +kernel
theorem dX10_strand_68 : decode cX10_strand 68 = .ok (.getfield 175, 3) := by decide +kernel
theorem dX10_strand_71 : decode cX10_strand 71 = .ok (.iload_n 1, 1) := by decide +kernel
theorem dX10_strand_72 : decode cX10_strand 72 = .ok (.iaload, 1) := by decide +kernel
theorem dX10_strand_73 : decode cX10_strand 73 = .ok (.ireturn, 1) := by decide +kernel
theorem dX10_strand_74 : decode cX10_strand 74 = .ok (.aload_n 0, 1) := by decide +kernel
theorem dX10_strand_75 : decode cX10_strand 75 = .ok (.getfield 42, 3) := by decide +kernel
theorem dX10_strand_78 : decode cX10_strand 78 = .ok (.getfield 178, 3) := by decide +kernel
theorem dX10_strand_81 : decode cX10_strand 81 = .ok (.iload_n 1, 1) := by decide +kernel
theorem dX10_strand_82 : decode cX10_strand 82 = .ok (.iaload, 1) := by decide +kernel
theorem dX10_strand_83 : decode cX10_strand 83 = .ok (.ireturn, 1) := by decide +kernel
theorem dX10_strand_84 : decode cX10_strand 84 = .ok (.aload_n 0, 1) := by decide +kernel
theorem dX10_strand_85 : decode cX10_strand 85 = .ok (.getfield 42, 3) := by decide +kernel
theorem dX10_strand_88 : decode cX10_strand 88 = .ok (.getfield 181, 3) := by decide +kernel
theorem dX10_strand_91 : decode cX10_strand 91 = .ok (.iload_n 1, 1) := by decide +kernel
theorem dX10_strand_92 : decode cX10_strand 92 = .ok (.iaload, 1) := by decide +kernel
theorem dX10_strand_93 : decode cX10_strand 93 = .ok (.ireturn, 1) := by decide +kernel
theorem dX10_strand_94 : decode cX10_strand 94 = .ok (.aload_n 0, 1) := by decide +kernel
theorem dX10_strand_95 : decode cX10_strand 95 = .ok (.getfield 42, 3) := by decide +kernel
theorem dX10_strand_98 : decode cX10_strand 98 = .ok (.getfield 184, 3) := by decide +kernel
theorem dX10_strand_101 : decode cX10_strand 101 = .ok (.iload_n 1, 1) := by decide +kernel
theorem dX10_strand_102 : decode cX10_strand 102 = .ok (.iaload, 1) := by decide +kernel
theorem dX10_strand_103 : decode cX10_strand 103 = .ok (.ireturn, 1) := by decide +kernel
theorem dX10_strand_104 : decode cX10_strand 104 = .ok (.aload_n 0, 1) := by decide +kernel
theorem dX10_strand_105 : decode cX10_strand 105 = .ok (.getfield 42, 3) := by decide +kernel
theorem dX10_strand_108 : decode cX10_strand 108 = .ok (.getfield 187, 3) := by decide +kernel
theorem dX10_strand_111 : decode cX10_strand 111 = .ok (.iload_n 1, 1) := by decide +kernel
theorem dX10_strand_112 : decode cX10_strand 112 = .ok (.iaload, 1) := by decide +kernel
theorem dX10_strand_113 : decode cX10_strand 113 = .ok (.ireturn, 1) := by decide +kernel
theorem dX10_strand_114 : decode cX10_strand 114 = .ok (.aload_n 0, 1) := by decide +kernel
theorem dX10_strand_115 : decode cX10_strand 115 = .ok (.getfield 42, 3) := by decide +kernel
theorem dX10_strand_118 : decode cX10_strand 118 = .ok (.getfield 190, 3) := by decide +kernel
theorem dX10_strand_121 : decode cX10_strand 121 = .ok (.iload_n 1, 1) := by decide +kernel
theorem dX10_strand_122 : decode cX10_strand 122 = .ok (.iaload, 1) := by decide +kernel
theorem dX10_strand_123 : decode cX10_strand 123 = .ok (.ireturn, 1) := by decide +kernel
theorem dX10_strand_124 : decode cX10_strand 124 = .ok (.aload_n 0, 1) := by decide +kernel
theorem dX10_strand_125 : decode cX10_strand 125 = .ok (.getfield 42, 3) := by decide +kernel
theorem dX10_strand_128 : decode cX10_strand 128 = .ok (.iload_n 1, 1) := by decide +kernel
theorem dX10_strand_129 : decode cX10_strand 129 = .ok (.aload_n 0, 1) := by decide +kernel
theorem dX10_strand_130 : decode cX10_strand 130 = .ok (.getfield 42, 3) := by decide +kernel
theorem dX10_strand_133 : decode cX10_strand 133 = .ok (.iload_n 1, 1) := by decide +kernel
theorem dX10_strand_134 : decode cX10_strand 134 = .ok (.invokevirtual 193, 3) := by decide +kernel
theorem dX10_strand_137 : decode cX10_strand 137 = .ok (.invokevirtual 196, 3) := by decide +kernel
theorem dX10_strand_140 : decode cX10_strand 140 = .ok (.ireturn, 1) := by decide +kernel
theorem dX10_strand_141 : decode cX10_strand 141 = .ok (.aload_n 0, 1) := by decide +kernel
theorem dX10_strand_142 : decode cX10_strand 142 = .ok (.getfield 42, 3) := by decide +kernel
theorem dX10_strand_145 : decode cX10_strand 145 = .ok (.getfield 199, 3) := by decide +kernel
theorem dX10_strand_148 : decode cX10_strand 148 = .ok (.iload_n 1, 1) := by decide +kernel
theorem dX10_strand_149 : decode cX10_strand 149 = .ok (.iaload, 1) := by decide +kernel
theorem dX10_strand_150 : decode cX10_strand 150 = .ok (.ireturn, 1) := by decide +kernel
theorem dX10_strand_151 : decode cX10_strand 151 = .ok (.aload_n 0, 1) := by decide +kernel
theorem dX10_strand_152 : decode cX10_strand 152 = .ok (.getfield 42, 3) := by decide +kernel
theorem dX10_strand_155 : decode cX10_strand 155 = .ok (.getfield 202, 3) := by decide +kernel
theorem dX10_strand_158 : decode cX10_strand 158 = .ok (.iload_n 1, 1) := by decide +kernel
theorem dX10_strand_159 : decode cX10_strand 159 = .ok (.iaload, 1) := by decide +kernel
theorem dX10_strand_160 : decode cX10_strand 160 = .ok (.ireturn, 1) := by decide +kernel
theorem dX10_strand_161 : decode cX10_strand 161 = .ok (.iconst (-1), 1) := by decide +kernel
theorem dX10_strand_162 : decode cX10_strand 162 = .ok (.ireturn, 1) := by decide +kernel
theorem dX10_crossing_0 : decode cX10_crossing 0 = .ok (.iload_n 1, 1) := by decide +kernel
theorem dX10_crossing_1 : decode cX10_crossing 1 = .ok (.ifCond .lt 14, 3) := by decide +kernel
theorem dX10_crossing_4 : decode cX10_crossing 4 = .ok (.iload_n 1, 1) := by decide +kernel
theorem dX10_crossing_5 : decode cX10_crossing 5 = .ok (.aload_n 0, 1) := by decide +kernel
theorem dX10_crossing_6 : decode cX10_crossing 6 = .ok (.getfield 29, 3) := by decide +kernel
theorem dX10_crossing_9 : decode cX10_crossing 9 = .ok (.getfield 205, 3) := by decide +kernel
theorem dX10_crossing_12 : decode cX10_crossing 12 = .ok (.if_icmp .lt 5, 3) := by decide +kernel
theorem dX10_crossing_15 : decode cX10_crossing 15 = .ok (.iconst (-1), 1) := by decide +kernel
theorem dX10_crossing_16 : decode cX10_crossing 16 = .ok (.ireturn, 1) := by decide +kernel
theorem dX10_crossing_17 : decode cX10_crossing 17 = .ok (.iload_n 2, 1) := by decide +kernel
theorem dX10_crossing_18 : decode cX10_crossing 18 = .ok (.tableswitch 70 0 3 #[30, 40, 50, 60], 30) := by decide +kernel
theorem dX10_crossing_48 : decode cX10_crossing 48 = .ok (.aload_n 0, 1) := by decide +kernel
theorem dX10_crossing_49 : decode cX10_crossing 49 = .ok (.getfield 29, 3) := by decide +kernel
theorem dX10_crossing_52 : decode cX10_crossing 52 = .ok (.getfield 208, 3) := by decide +kernel
theorem dX10_crossing_55 : decode cX10_crossing 55 = .ok (.iload_n 1, 1) := by decide +kernel
theorem dX10_crossing_56 : decode cX10_crossing 56 = .ok (.iaload, 1) := by decide +kernel
theorem dX10_crossing_57 : decode cX10_crossing 57 = .ok (.ireturn, 1) := by decide +kernel
theorem dX10_crossing_58 : decode cX10_crossing 58 = .ok (.aload_n 0, 1) := by decide +kernel
theorem dX10_crossing_59 : decode cX10_crossing 59 = .ok (.getfield 29, 3) := by decide +kernel
theorem dX10_crossing_62 : decode cX10_crossing 62 = .ok (.getfield 211, 3) := by decide +kernel
theorem dX10_crossing_65 : decode cX10_crossing 65 = .ok (.iload_n 1, 1) := by decide +kernel
theorem dX10_crossing_66 : decode cX10_crossing 66 = .ok (.iaload, 1) := by decide +kernel
theorem dX10_crossing_67 : decode cX10_crossing 67 = .ok (.ireturn, 1) := by decide +kernel
theorem dX10_crossing_68 : decode cX10_crossing 68 = .ok (.aload_n 0, 1) := by decide +kernel
theorem dX10_crossing_69 : decode cX10_crossing 69 = .ok (.getfield 29, 3) := by decide +kernel
theorem dX10_crossing_72 : decode cX10_crossing 72 = .ok (.getfield 214, 3) := by decide +kernel
theorem dX10_crossing_75 : decode cX10_crossing 75 = .ok (.iload_n 1, 1) := by decide +kernel
theorem dX10_crossing_76 : decode cX10_crossing 76 = .ok (.iaload, 1) := by decide +kernel
theorem dX10_crossing_77 : decode cX10_crossing 77 = .ok (.ireturn, 1) := by decide +kernel
theorem dX10_crossing_78 : decode cX10_crossing 78 = .ok (.aload_n 0, 1) := by decide +kernel
theorem dX10_crossing_79 : decode cX10_crossing 79 = .ok (.getfield 42, 3) := by decide +kernel
theorem dX10_crossing_82 : decode cX10_crossing 82 = .ok (.getfield 217, 3) := by decide +kernel
theorem dX10_crossing_85 : decode cX10_crossing 85 = .ok (.iload_n 1, 1) := by decide +kernel
theorem dX10_crossing_86 : decode cX10_crossing 86 = .ok (.iaload, 1) := by decide +kernel
theorem dX10_crossing_87 : decode cX10_crossing 87 = .ok (.ireturn, 1) := by decide +kernel
theorem dX10_crossing_88 : decode cX10_crossing 88 = .ok (.iconst (-1), 1) := by decide +kernel
theorem dX10_crossing_89 : decode cX10_crossing 89 = .ok (.ireturn, 1) := by decide +kernel
theorem dX10_law_0 : decode cX10_law 0 = .ok (.iload_n 1, 1) := by decide +kernel
theorem dX10_law_1 : decode cX10_law 1 = .ok (.ifCond .lt 19, 3) := by decide +kernel
theorem dX10_law_4 : decode cX10_law 4 = .ok (.iload_n 1, 1) := by decide +kernel
theorem dX10_law_5 : decode cX10_law 5 = .ok (.iconst 3, 1) := by decide +kernel
theorem dX10_law_6 : decode cX10_law 6 = .ok (.if_icmp .ge 14, 3) := by decide +kernel
theorem dX10_law_9 : decode cX10_law 9 = .ok (.aload_n 0, 1) := by decide +kernel
theorem dX10_law_10 : decode cX10_law 10 = .ok (.getfield 42, 3) := by decide +kernel
theorem dX10_law_13 : decode cX10_law 13 = .ok (.iload_n 2, 1) := by decide +kernel
theorem dX10_law_14 : decode cX10_law 14 = .ok (.invokevirtual 220, 3) := by decide +kernel
theorem dX10_law_17 : decode cX10_law 17 = .ok (.ifCond .ne 7, 3) := by decide +kernel
theorem dX10_law_20 : decode cX10_law 20 = .ok (.ldc2_w 225, 3) := by decide +kernel
theorem dX10_law_23 : decode cX10_law 23 = .ok (.lreturn, 1) := by decide +kernel
theorem dX10_law_24 : decode cX10_law 24 = .ok (.aload_n 0, 1) := by decide +kernel
theorem dX10_law_25 : decode cX10_law 25 = .ok (.getfield 42, 3) := by decide +kernel
theorem dX10_law_28 : decode cX10_law 28 = .ok (.iload_n 2, 1) := by decide +kernel
theorem dX10_law_29 : decode cX10_law 29 = .ok (.aload_n 0, 1) := by decide +kernel
theorem dX10_law_30 : decode cX10_law 30 = .ok (.getfield 42, 3) := by decide +kernel
theorem dX10_law_33 : decode cX10_law 33 = .ok (.iload_n 2, 1) := by decide +kernel
theorem dX10_law_34 : decode cX10_law 34 = .ok (.invokevirtual 193, 3) := by decide +kernel
theorem dX10_law_37 : decode cX10_law 37 = .ok (.invokevirtual 227, 3) := by decide +kernel
theorem dX10_law_40 : decode cX10_law 40 = .ok (.aload_n 0, 1) := by decide +kernel
theorem dX10_law_41 : decode cX10_law 41 = .ok (.getfield 29, 3) := by decide +kernel
theorem dX10_law_44 : decode cX10_law 44 = .ok (.getfield 231, 3) := by decide +kernel
theorem dX10_law_47 : decode cX10_law 47 = .ok (.iload_n 1, 1) := by decide +kernel
theorem dX10_law_48 : decode cX10_law 48 = .ok (.invokevirtual 235, 3) := by decide +kernel
theorem dX10_law_51 : decode cX10_law 51 = .ok (.lreturn, 1) := by decide +kernel
theorem dX10_bears_0 : decode cX10_bears 0 = .ok (.aload_n 0, 1) := by decide +kernel
theorem dX10_bears_1 : decode cX10_bears 1 = .ok (.getfield 42, 3) := by decide +kernel
theorem dX10_bears_4 : decode cX10_bears 4 = .ok (.invokevirtual 239, 3) := by decide +kernel
theorem dX10_bears_7 : decode cX10_bears 7 = .ok (.ireturn, 1) := by decide +kernel
theorem dX10_sag_0 : decode cX10_sag 0 = .ok (.iload_n 1, 1) := by decide +kernel
theorem dX10_sag_1 : decode cX10_sag 1 = .ok (.iconst 1, 1) := by decide +kernel
theorem dX10_sag_2 : decode cX10_sag 2 = .ok (.if_icmp .lt 10, 3) := by decide +kernel
theorem dX10_sag_5 : decode cX10_sag 5 = .ok (.iload_n 1, 1) := by decide +kernel
theorem dX10_sag_6 : decode cX10_sag 6 = .ok (.sipush 999, 3) := by decide +kernel
theorem dX10_sag_9 : decode cX10_sag 9 = .ok (.if_icmp .le 5, 3) := by decide +kernel
theorem dX10_sag_12 : decode cX10_sag 12 = .ok (.iconst (-1), 1) := by decide +kernel
theorem dX10_sag_13 : decode cX10_sag 13 = .ok (.ireturn, 1) := by decide +kernel
theorem dX10_sag_14 : decode cX10_sag 14 = .ok (.iload_n 1, 1) := by decide +kernel
theorem dX10_sag_15 : decode cX10_sag 15 = .ok (.aload_n 0, 1) := by decide +kernel
theorem dX10_sag_16 : decode cX10_sag 16 = .ok (.getfield 42, 3) := by decide +kernel
theorem dX10_sag_19 : decode cX10_sag 19 = .ok (.invokevirtual 239, 3) := by decide +kernel
theorem dX10_sag_22 : decode cX10_sag 22 = .ok (.invokestatic 243, 3) := by decide +kernel
theorem dX10_sag_25 : decode cX10_sag 25 = .ok (.ireturn, 1) := by decide +kernel
theorem dX10_sagOf_0 : decode cX10_sagOf 0 = .ok (.iload_n 1, 1) := by decide +kernel
theorem dX10_sagOf_1 : decode cX10_sagOf 1 = .ok (.ifCond .gt 7, 3) := by decide +kernel
theorem dX10_sagOf_4 : decode cX10_sagOf 4 = .ok (.sipush 9999, 3) := by decide +kernel
theorem dX10_sagOf_7 : decode cX10_sagOf 7 = .ok (.ireturn, 1) := by decide +kernel
theorem dX10_sagOf_8 : decode cX10_sagOf 8 = .ok (.sipush 9999, 3) := by decide +kernel
theorem dX10_sagOf_11 : decode cX10_sagOf 11 = .ok (.iload_n 0, 1) := by decide +kernel
theorem dX10_sagOf_12 : decode cX10_sagOf 12 = .ok (.bipush 100, 2) := by decide +kernel
theorem dX10_sagOf_14 : decode cX10_sagOf 14 = .ok (.imul, 1) := by decide +kernel
theorem dX10_sagOf_15 : decode cX10_sagOf 15 = .ok (.iload_n 1, 1) := by decide +kernel
theorem dX10_sagOf_16 : decode cX10_sagOf 16 = .ok (.idiv, 1) := by decide +kernel
theorem dX10_sagOf_17 : decode cX10_sagOf 17 = .ok (.invokestatic 246, 3) := by decide +kernel
theorem dX10_sagOf_20 : decode cX10_sagOf 20 = .ok (.ireturn, 1) := by decide +kernel
theorem dX10_tie_0 : decode cX10_tie 0 = .ok (.aload_n 0, 1) := by decide +kernel
theorem dX10_tie_1 : decode cX10_tie 1 = .ok (.iload_n 1, 1) := by decide +kernel
theorem dX10_tie_2 : decode cX10_tie 2 = .ok (.invokevirtual 137, 3) := by decide +kernel
theorem dX10_tie_5 : decode cX10_tie 5 = .ok (.ifCond .eq 32, 3) := by decide +kernel
theorem dX10_tie_8 : decode cX10_tie 8 = .ok (.aload_n 0, 1) := by decide +kernel
theorem dX10_tie_9 : decode cX10_tie 9 = .ok (.iload_n 2, 1) := by decide +kernel
theorem dX10_tie_10 : decode cX10_tie 10 = .ok (.invokevirtual 137, 3) := by decide +kernel
theorem dX10_tie_13 : decode cX10_tie 13 = .ok (.ifCond .eq 24, 3) := by decide +kernel
theorem dX10_tie_16 : decode cX10_tie 16 = .ok (.aload_n 0, 1) := by decide +kernel
theorem dX10_tie_17 : decode cX10_tie 17 = .ok (.getfield 29, 3) := by decide +kernel
theorem dX10_tie_20 : decode cX10_tie 20 = .ok (.getfield 154, 3) := by decide +kernel
theorem dX10_tie_23 : decode cX10_tie 23 = .ok (.iload_n 1, 1) := by decide +kernel
theorem dX10_tie_24 : decode cX10_tie 24 = .ok (.iaload, 1) := by decide +kernel
theorem dX10_tie_25 : decode cX10_tie 25 = .ok (.aload_n 0, 1) := by decide +kernel
theorem dX10_tie_26 : decode cX10_tie 26 = .ok (.getfield 29, 3) := by decide +kernel
theorem dX10_tie_29 : decode cX10_tie 29 = .ok (.getfield 154, 3) := by decide +kernel
theorem dX10_tie_32 : decode cX10_tie 32 = .ok (.iload_n 2, 1) := by decide +kernel
theorem dX10_tie_33 : decode cX10_tie 33 = .ok (.iaload, 1) := by decide +kernel
theorem dX10_tie_34 : decode cX10_tie 34 = .ok (.if_icmp .ne 5, 3) := by decide +kernel
theorem dX10_tie_37 : decode cX10_tie 37 = .ok (.iconst (-1), 1) := by decide +kernel
theorem dX10_tie_38 : decode cX10_tie 38 = .ok (.ireturn, 1) := by decide +kernel
theorem dX10_tie_39 : decode cX10_tie 39 = .ok (.iload_n 3, 1) := by decide +kernel
theorem dX10_tie_40 : decode cX10_tie 40 = .ok (.iconst 1, 1) := by decide +kernel
theorem dX10_tie_41 : decode cX10_tie 41 = .ok (.if_icmp .lt 34, 3) := by decide +kernel
theorem dX10_tie_44 : decode cX10_tie 44 = .ok (.iload_n 3, 1) := by decide +kernel
theorem dX10_tie_45 : decode cX10_tie 45 = .ok (.sipush 999, 3) := by decide +kernel
theorem dX10_tie_48 : decode cX10_tie 48 = .ok (.if_icmp .gt 27, 3) := by decide +kernel
theorem dX10_tie_51 : decode cX10_tie 51 = .ok (.iload 4, 2) := by decide +kernel
theorem dX10_tie_53 : decode cX10_tie 53 = .ok (.ifCond .lt 22, 3) := by decide +kernel
theorem dX10_tie_56 : decode cX10_tie 56 = .ok (.iload 4, 2) := by decide +kernel
theorem dX10_tie_58 : decode cX10_tie 58 = .ok (.bipush 99, 2) := by decide +kernel
theorem dX10_tie_60 : decode cX10_tie 60 = .ok (.if_icmp .gt 15, 3) := by decide +kernel
theorem dX10_tie_63 : decode cX10_tie 63 = .ok (.aload_n 0, 1) := by decide +kernel
theorem dX10_tie_64 : decode cX10_tie 64 = .ok (.getfield 42, 3) := by decide +kernel
theorem dX10_tie_67 : decode cX10_tie 67 = .ok (.getfield 251, 3) := by decide +kernel
theorem dX10_tie_70 : decode cX10_tie 70 = .ok (.bipush 12, 2) := by decide +kernel
theorem dX10_tie_72 : decode cX10_tie 72 = .ok (.if_icmp .lt 5, 3) := by decide +kernel
theorem dX10_tie_75 : decode cX10_tie 75 = .ok (.iconst (-1), 1) := by decide +kernel
theorem dX10_tie_76 : decode cX10_tie 76 = .ok (.ireturn, 1) := by decide +kernel
theorem dX10_tie_77 : decode cX10_tie 77 = .ok (.aload_n 0, 1) := by decide +kernel
theorem dX10_tie_78 : decode cX10_tie 78 = .ok (.invokevirtual 254, 3) := by decide +kernel
theorem dX10_tie_81 : decode cX10_tie 81 = .ok (.aload_n 0, 1) := by decide +kernel
theorem dX10_tie_82 : decode cX10_tie 82 = .ok (.getfield 42, 3) := by decide +kernel
theorem dX10_tie_85 : decode cX10_tie 85 = .ok (.iload_n 1, 1) := by decide +kernel
theorem dX10_tie_86 : decode cX10_tie 86 = .ok (.iload_n 2, 1) := by decide +kernel
theorem dX10_tie_87 : decode cX10_tie 87 = .ok (.iload_n 3, 1) := by decide +kernel
theorem dX10_tie_88 : decode cX10_tie 88 = .ok (.iconst 0, 1) := by decide +kernel
theorem dX10_tie_89 : decode cX10_tie 89 = .ok (.iload 4, 2) := by decide +kernel
theorem dX10_tie_91 : decode cX10_tie 91 = .ok (.invokevirtual 257, 3) := by decide +kernel
theorem dX10_tie_94 : decode cX10_tie 94 = .ok (.aload_n 0, 1) := by decide +kernel
theorem dX10_tie_95 : decode cX10_tie 95 = .ok (.getfield 42, 3) := by decide +kernel
theorem dX10_tie_98 : decode cX10_tie 98 = .ok (.getfield 251, 3) := by decide +kernel
theorem dX10_tie_101 : decode cX10_tie 101 = .ok (.iconst 1, 1) := by decide +kernel
theorem dX10_tie_102 : decode cX10_tie 102 = .ok (.isub, 1) := by decide +kernel
theorem dX10_tie_103 : decode cX10_tie 103 = .ok (.ireturn, 1) := by decide +kernel
theorem dX10_forgive_0 : decode cX10_forgive 0 = .ok (.aload_n 0, 1) := by decide +kernel
theorem dX10_forgive_1 : decode cX10_forgive 1 = .ok (.getfield 42, 3) := by decide +kernel
theorem dX10_forgive_4 : decode cX10_forgive 4 = .ok (.iload_n 1, 1) := by decide +kernel
theorem dX10_forgive_5 : decode cX10_forgive 5 = .ok (.invokevirtual 220, 3) := by decide +kernel
theorem dX10_forgive_8 : decode cX10_forgive 8 = .ok (.ifCond .ne 5, 3) := by decide +kernel
theorem dX10_forgive_11 : decode cX10_forgive 11 = .ok (.iconst 0, 1) := by decide +kernel
theorem dX10_forgive_12 : decode cX10_forgive 12 = .ok (.ireturn, 1) := by decide +kernel
theorem dX10_forgive_13 : decode cX10_forgive 13 = .ok (.aload_n 0, 1) := by decide +kernel
theorem dX10_forgive_14 : decode cX10_forgive 14 = .ok (.invokevirtual 254, 3) := by decide +kernel
theorem dX10_forgive_17 : decode cX10_forgive 17 = .ok (.aload_n 0, 1) := by decide +kernel
theorem dX10_forgive_18 : decode cX10_forgive 18 = .ok (.getfield 42, 3) := by decide +kernel
theorem dX10_forgive_21 : decode cX10_forgive 21 = .ok (.getfield 190, 3) := by decide +kernel
theorem dX10_forgive_24 : decode cX10_forgive 24 = .ok (.iload_n 1, 1) := by decide +kernel
theorem dX10_forgive_25 : decode cX10_forgive 25 = .ok (.iconst 2, 1) := by decide +kernel
theorem dX10_forgive_26 : decode cX10_forgive 26 = .ok (.iastore, 1) := by decide +kernel
theorem dX10_forgive_27 : decode cX10_forgive 27 = .ok (.iconst 1, 1) := by decide +kernel
theorem dX10_forgive_28 : decode cX10_forgive 28 = .ok (.ireturn, 1) := by decide +kernel
theorem dX10_pay_0 : decode cX10_pay 0 = .ok (.aload_n 0, 1) := by decide +kernel
theorem dX10_pay_1 : decode cX10_pay 1 = .ok (.getfield 42, 3) := by decide +kernel
theorem dX10_pay_4 : decode cX10_pay 4 = .ok (.iload_n 1, 1) := by decide +kernel
theorem dX10_pay_5 : decode cX10_pay 5 = .ok (.invokevirtual 261, 3) := by decide +kernel
theorem dX10_pay_8 : decode cX10_pay 8 = .ok (.ifCond .ne 5, 3) := by decide +kernel
theorem dX10_pay_11 : decode cX10_pay 11 = .ok (.iconst 0, 1) := by decide +kernel
theorem dX10_pay_12 : decode cX10_pay 12 = .ok (.ireturn, 1) := by decide +kernel
theorem dX10_pay_13 : decode cX10_pay 13 = .ok (.aload_n 0, 1) := by decide +kernel
theorem dX10_pay_14 : decode cX10_pay 14 = .ok (.invokevirtual 254, 3) := by decide +kernel
theorem dX10_pay_17 : decode cX10_pay 17 = .ok (.aload_n 0, 1) := by decide +kernel
theorem dX10_pay_18 : decode cX10_pay 18 = .ok (.getfield 42, 3) := by decide +kernel
theorem dX10_pay_21 : decode cX10_pay 21 = .ok (.iload_n 1, 1) := by decide +kernel
theorem dX10_pay_22 : decode cX10_pay 22 = .ok (.invokevirtual 264, 3) := by decide +kernel
theorem dX10_pay_25 : decode cX10_pay 25 = .ok (.iconst 1, 1) := by decide +kernel
theorem dX10_pay_26 : decode cX10_pay 26 = .ok (.ireturn, 1) := by decide +kernel
theorem dX10_twist_0 : decode cX10_twist 0 = .ok (.aload_n 0, 1) := by decide +kernel
theorem dX10_twist_1 : decode cX10_twist 1 = .ok (.getfield 42, 3) := by decide +kernel
theorem dX10_twist_4 : decode cX10_twist 4 = .ok (.iload_n 1, 1) := by decide +kernel
theorem dX10_twist_5 : decode cX10_twist 5 = .ok (.invokevirtual 220, 3) := by decide +kernel
theorem dX10_twist_8 : decode cX10_twist 8 = .ok (.ifCond .eq 14, 3) := by decide +kernel
theorem dX10_twist_11 : decode cX10_twist 11 = .ok (.aload_n 0, 1) := by decide +kernel
theorem dX10_twist_12 : decode cX10_twist 12 = .ok (.getfield 42, 3) := by decide +kernel
theorem dX10_twist_15 : decode cX10_twist 15 = .ok (.iload_n 2, 1) := by decide +kernel
theorem dX10_twist_16 : decode cX10_twist 16 = .ok (.invokevirtual 220, 3) := by decide +kernel
theorem dX10_twist_19 : decode cX10_twist 19 = .ok (.ifCond .ne 5, 3) := by decide +kernel
theorem dX10_twist_22 : decode cX10_twist 22 = .ok (.iconst 0, 1) := by decide +kernel
theorem dX10_twist_23 : decode cX10_twist 23 = .ok (.ireturn, 1) := by decide +kernel
theorem dX10_twist_24 : decode cX10_twist 24 = .ok (.iload_n 1, 1) := by decide +kernel
theorem dX10_twist_25 : decode cX10_twist 25 = .ok (.iload_n 2, 1) := by decide +kernel
theorem dX10_twist_26 : decode cX10_twist 26 = .ok (.if_icmp .ne 7, 3) := by decide +kernel
theorem dX10_twist_29 : decode cX10_twist 29 = .ok (.iconst 1, 1) := by decide +kernel
theorem dX10_twist_30 : decode cX10_twist 30 = .ok (.goto 4, 3) := by decide +kernel
theorem dX10_twist_33 : decode cX10_twist 33 = .ok (.iconst 0, 1) := by decide +kernel
theorem dX10_twist_34 : decode cX10_twist 34 = .ok (.istore_n 3, 1) := by decide +kernel
theorem dX10_twist_35 : decode cX10_twist 35 = .ok (.aload_n 0, 1) := by decide +kernel
theorem dX10_twist_36 : decode cX10_twist 36 = .ok (.getfield 42, 3) := by decide +kernel
theorem dX10_twist_39 : decode cX10_twist 39 = .ok (.getfield 199, 3) := by decide +kernel
theorem dX10_twist_42 : decode cX10_twist 42 = .ok (.iload_n 1, 1) := by decide +kernel
theorem dX10_twist_43 : decode cX10_twist 43 = .ok (.iaload, 1) := by decide +kernel
theorem dX10_twist_44 : decode cX10_twist 44 = .ok (.iload_n 3, 1) := by decide +kernel
theorem dX10_twist_45 : decode cX10_twist 45 = .ok (.ifCond .eq 7, 3) := by decide +kernel
theorem dX10_twist_48 : decode cX10_twist 48 = .ok (.iconst (-1), 1) := by decide +kernel
theorem dX10_twist_49 : decode cX10_twist 49 = .ok (.goto 4, 3) := by decide +kernel
theorem dX10_twist_52 : decode cX10_twist 52 = .ok (.iload_n 2, 1) := by decide +kernel
theorem dX10_twist_53 : decode cX10_twist 53 = .ok (.if_icmp .ne 5, 3) := by decide +kernel
theorem dX10_twist_56 : decode cX10_twist 56 = .ok (.iconst 0, 1) := by decide +kernel
theorem dX10_twist_57 : decode cX10_twist 57 = .ok (.ireturn, 1) := by decide +kernel
theorem dX10_twist_58 : decode cX10_twist 58 = .ok (.aload_n 0, 1) := by decide +kernel
theorem dX10_twist_59 : decode cX10_twist 59 = .ok (.invokevirtual 254, 3) := by decide +kernel
theorem dX10_twist_62 : decode cX10_twist 62 = .ok (.aload_n 0, 1) := by decide +kernel
theorem dX10_twist_63 : decode cX10_twist 63 = .ok (.getfield 42, 3) := by decide +kernel
theorem dX10_twist_66 : decode cX10_twist 66 = .ok (.iload_n 1, 1) := by decide +kernel
theorem dX10_twist_67 : decode cX10_twist 67 = .ok (.invokevirtual 267, 3) := by decide +kernel
theorem dX10_twist_70 : decode cX10_twist 70 = .ok (.aload_n 0, 1) := by decide +kernel
theorem dX10_twist_71 : decode cX10_twist 71 = .ok (.getfield 42, 3) := by decide +kernel
theorem dX10_twist_74 : decode cX10_twist 74 = .ok (.iload_n 2, 1) := by decide +kernel
theorem dX10_twist_75 : decode cX10_twist 75 = .ok (.invokevirtual 267, 3) := by decide +kernel
theorem dX10_twist_78 : decode cX10_twist 78 = .ok (.iload_n 3, 1) := by decide +kernel
theorem dX10_twist_79 : decode cX10_twist 79 = .ok (.ifCond .ne 12, 3) := by decide +kernel
theorem dX10_twist_82 : decode cX10_twist 82 = .ok (.aload_n 0, 1) := by decide +kernel
theorem dX10_twist_83 : decode cX10_twist 83 = .ok (.getfield 42, 3) := by decide +kernel
theorem dX10_twist_86 : decode cX10_twist 86 = .ok (.iload_n 1, 1) := by decide +kernel
theorem dX10_twist_87 : decode cX10_twist 87 = .ok (.iload_n 2, 1) := by decide +kernel
theorem dX10_twist_88 : decode cX10_twist 88 = .ok (.invokevirtual 270, 3) := by decide +kernel
theorem dX10_twist_91 : decode cX10_twist 91 = .ok (.iconst 1, 1) := by decide +kernel
theorem dX10_twist_92 : decode cX10_twist 92 = .ok (.ireturn, 1) := by decide +kernel
theorem dX10_cross_0 : decode cX10_cross 0 = .ok (.aload_n 0, 1) := by decide +kernel
theorem dX10_cross_1 : decode cX10_cross 1 = .ok (.iload_n 1, 1) := by decide +kernel
theorem dX10_cross_2 : decode cX10_cross 2 = .ok (.invokevirtual 137, 3) := by decide +kernel
theorem dX10_cross_5 : decode cX10_cross 5 = .ok (.ifCond .eq 13, 3) := by decide +kernel
theorem dX10_cross_8 : decode cX10_cross 8 = .ok (.iload_n 2, 1) := by decide +kernel
theorem dX10_cross_9 : decode cX10_cross 9 = .ok (.ifCond .lt 9, 3) := by decide +kernel
theorem dX10_cross_12 : decode cX10_cross 12 = .ok (.iload_n 2, 1) := by decide +kernel
theorem dX10_cross_13 : decode cX10_cross 13 = .ok (.bipush 99, 2) := by decide +kernel
theorem dX10_cross_15 : decode cX10_cross 15 = .ok (.if_icmp .le 5, 3) := by decide +kernel
theorem dX10_cross_18 : decode cX10_cross 18 = .ok (.iconst (-1), 1) := by decide +kernel
theorem dX10_cross_19 : decode cX10_cross 19 = .ok (.ireturn, 1) := by decide +kernel
theorem dX10_cross_20 : decode cX10_cross 20 = .ok (.aload_n 0, 1) := by decide +kernel
theorem dX10_cross_21 : decode cX10_cross 21 = .ok (.getfield 29, 3) := by decide +kernel
theorem dX10_cross_24 : decode cX10_cross 24 = .ok (.getfield 151, 3) := by decide +kernel
theorem dX10_cross_27 : decode cX10_cross 27 = .ok (.iload_n 1, 1) := by decide +kernel
theorem dX10_cross_28 : decode cX10_cross 28 = .ok (.iaload, 1) := by decide +kernel
theorem dX10_cross_29 : decode cX10_cross 29 = .ok (.iload_n 2, 1) := by decide +kernel
theorem dX10_cross_30 : decode cX10_cross 30 = .ok (.iadd, 1) := by decide +kernel
theorem dX10_cross_31 : decode cX10_cross 31 = .ok (.aload_n 0, 1) := by decide +kernel
theorem dX10_cross_32 : decode cX10_cross 32 = .ok (.getfield 42, 3) := by decide +kernel
theorem dX10_cross_35 : decode cX10_cross 35 = .ok (.invokevirtual 239, 3) := by decide +kernel
theorem dX10_cross_38 : decode cX10_cross 38 = .ok (.if_icmp .le 5, 3) := by decide +kernel
theorem dX10_cross_41 : decode cX10_cross 41 = .ok (.iconst 0, 1) := by decide +kernel
theorem dX10_cross_42 : decode cX10_cross 42 = .ok (.ireturn, 1) := by decide +kernel
theorem dX10_cross_43 : decode cX10_cross 43 = .ok (.aload_n 0, 1) := by decide +kernel
theorem dX10_cross_44 : decode cX10_cross 44 = .ok (.invokevirtual 254, 3) := by decide +kernel
theorem dX10_cross_47 : decode cX10_cross 47 = .ok (.aload_n 0, 1) := by decide +kernel
theorem dX10_cross_48 : decode cX10_cross 48 = .ok (.getfield 42, 3) := by decide +kernel
theorem dX10_cross_51 : decode cX10_cross 51 = .ok (.getfield 157, 3) := by decide +kernel
theorem dX10_cross_54 : decode cX10_cross 54 = .ok (.iload_n 1, 1) := by decide +kernel
theorem dX10_cross_55 : decode cX10_cross 55 = .ok (.iconst 1, 1) := by decide +kernel
theorem dX10_cross_56 : decode cX10_cross 56 = .ok (.aload_n 0, 1) := by decide +kernel
theorem dX10_cross_57 : decode cX10_cross 57 = .ok (.getfield 42, 3) := by decide +kernel
theorem dX10_cross_60 : decode cX10_cross 60 = .ok (.getfield 157, 3) := by decide +kernel
theorem dX10_cross_63 : decode cX10_cross 63 = .ok (.iload_n 1, 1) := by decide +kernel
theorem dX10_cross_64 : decode cX10_cross 64 = .ok (.iaload, 1) := by decide +kernel
theorem dX10_cross_65 : decode cX10_cross 65 = .ok (.isub, 1) := by decide +kernel
theorem dX10_cross_66 : decode cX10_cross 66 = .ok (.iastore, 1) := by decide +kernel
theorem dX10_cross_67 : decode cX10_cross 67 = .ok (.iconst 1, 1) := by decide +kernel
theorem dX10_cross_68 : decode cX10_cross 68 = .ok (.ireturn, 1) := by decide +kernel
theorem dX10_years_0 : decode cX10_years 0 = .ok (.iload_n 1, 1) := by decide +kernel
theorem dX10_years_1 : decode cX10_years 1 = .ok (.ifCond .lt 24, 3) := by decide +kernel
theorem dX10_years_4 : decode cX10_years 4 = .ok (.iload_n 1, 1) := by decide +kernel
theorem dX10_years_5 : decode cX10_years 5 = .ok (.bipush 99, 2) := by decide +kernel
theorem dX10_years_7 : decode cX10_years 7 = .ok (.if_icmp .gt 18, 3) := by decide +kernel
theorem dX10_years_10 : decode cX10_years 10 = .ok (.aload_n 0, 1) := by decide +kernel
theorem dX10_years_11 : decode cX10_years 11 = .ok (.getfield 42, 3) := by decide +kernel
theorem dX10_years_14 : decode cX10_years 14 = .ok (.getfield 273, 3) := by decide +kernel
theorem dX10_years_17 : decode cX10_years 17 = .ok (.iload_n 1, 1) := by decide +kernel
theorem dX10_years_18 : decode cX10_years 18 = .ok (.iadd, 1) := by decide +kernel
theorem dX10_years_19 : decode cX10_years 19 = .ok (.sipush 999, 3) := by decide +kernel
theorem dX10_years_22 : decode cX10_years 22 = .ok (.if_icmp .le 5, 3) := by decide +kernel
theorem dX10_years_25 : decode cX10_years 25 = .ok (.iconst (-1), 1) := by decide +kernel
theorem dX10_years_26 : decode cX10_years 26 = .ok (.ireturn, 1) := by decide +kernel
theorem dX10_years_27 : decode cX10_years 27 = .ok (.iconst 0, 1) := by decide +kernel
theorem dX10_years_28 : decode cX10_years 28 = .ok (.istore_n 2, 1) := by decide +kernel
theorem dX10_years_29 : decode cX10_years 29 = .ok (.iload_n 2, 1) := by decide +kernel
theorem dX10_years_30 : decode cX10_years 30 = .ok (.iload_n 1, 1) := by decide +kernel
theorem dX10_years_31 : decode cX10_years 31 = .ok (.if_icmp .ge 18, 3) := by decide +kernel
theorem dX10_years_34 : decode cX10_years 34 = .ok (.aload_n 0, 1) := by decide +kernel
theorem dX10_years_35 : decode cX10_years 35 = .ok (.getfield 42, 3) := by decide +kernel
theorem dX10_years_38 : decode cX10_years 38 = .ok (.iconst (-1), 1) := by decide +kernel
theorem dX10_years_39 : decode cX10_years 39 = .ok (.invokevirtual 276, 3) := by decide +kernel
theorem dX10_years_42 : decode cX10_years 42 = .ok (.pop, 1) := by decide +kernel
theorem dX10_years_43 : decode cX10_years 43 = .ok (.iinc 2 1, 3) := by decide +kernel
theorem dX10_years_46 : decode cX10_years 46 = .ok (.goto (-17), 3) := by decide +kernel
theorem dX10_years_49 : decode cX10_years 49 = .ok (.iload_n 1, 1) := by decide +kernel
theorem dX10_years_50 : decode cX10_years 50 = .ok (.ifCond .le 7, 3) := by decide +kernel
theorem dX10_years_53 : decode cX10_years 53 = .ok (.aload_n 0, 1) := by decide +kernel
theorem dX10_years_54 : decode cX10_years 54 = .ok (.invokevirtual 127, 3) := by decide +kernel
theorem dX10_years_57 : decode cX10_years 57 = .ok (.aload_n 0, 1) := by decide +kernel
theorem dX10_years_58 : decode cX10_years 58 = .ok (.getfield 42, 3) := by decide +kernel
theorem dX10_years_61 : decode cX10_years 61 = .ok (.getfield 273, 3) := by decide +kernel
theorem dX10_years_64 : decode cX10_years 64 = .ok (.ireturn, 1) := by decide +kernel
theorem dX10_order_0 : decode cX10_order 0 = .ok (.iload_n 1, 1) := by decide +kernel
theorem dX10_order_1 : decode cX10_order 1 = .ok (.ifCond .lt 31, 3) := by decide +kernel
theorem dX10_order_4 : decode cX10_order 4 = .ok (.iload_n 1, 1) := by decide +kernel
theorem dX10_order_5 : decode cX10_order 5 = .ok (.iconst 1, 1) := by decide +kernel
theorem dX10_order_6 : decode cX10_order 6 = .ok (.aload_n 0, 1) := by decide +kernel
theorem dX10_order_7 : decode cX10_order 7 = .ok (.getfield 42, 3) := by decide +kernel
theorem dX10_order_10 : decode cX10_order 10 = .ok (.getfield 251, 3) := by decide +kernel
theorem dX10_order_13 : decode cX10_order 13 = .ok (.ishl, 1) := by decide +kernel
theorem dX10_order_14 : decode cX10_order 14 = .ok (.if_icmp .ge 18, 3) := by decide +kernel
theorem dX10_order_17 : decode cX10_order 17 = .ok (.iload_n 2, 1) := by decide +kernel
theorem dX10_order_18 : decode cX10_order 18 = .ok (.ifCond .lt 14, 3) := by decide +kernel
theorem dX10_order_21 : decode cX10_order 21 = .ok (.iload_n 2, 1) := by decide +kernel
theorem dX10_order_22 : decode cX10_order 22 = .ok (.sipush 9999, 3) := by decide +kernel
theorem dX10_order_25 : decode cX10_order 25 = .ok (.if_icmp .gt 7, 3) := by decide +kernel
theorem dX10_order_28 : decode cX10_order 28 = .ok (.iload_n 3, 1) := by decide +kernel
theorem dX10_order_29 : decode cX10_order 29 = .ok (.ifCond .ge 5, 3) := by decide +kernel
theorem dX10_order_32 : decode cX10_order 32 = .ok (.iconst (-1), 1) := by decide +kernel
theorem dX10_order_33 : decode cX10_order 33 = .ok (.ireturn, 1) := by decide +kernel
theorem dX10_order_34 : decode cX10_order 34 = .ok (.iload_n 1, 1) := by decide +kernel
theorem dX10_order_35 : decode cX10_order 35 = .ok (.aload_n 0, 1) := by decide +kernel
theorem dX10_order_36 : decode cX10_order 36 = .ok (.getfield 42, 3) := by decide +kernel
theorem dX10_order_39 : decode cX10_order 39 = .ok (.invokevirtual 279, 3) := by decide +kernel
theorem dX10_order_42 : decode cX10_order 42 = .ok (.iconst (-1), 1) := by decide +kernel
theorem dX10_order_43 : decode cX10_order 43 = .ok (.ixor, 1) := by decide +kernel
theorem dX10_order_44 : decode cX10_order 44 = .ok (.iand, 1) := by decide +kernel
theorem dX10_order_45 : decode cX10_order 45 = .ok (.ifCond .eq 5, 3) := by decide +kernel
theorem dX10_order_48 : decode cX10_order 48 = .ok (.iconst (-1), 1) := by decide +kernel
theorem dX10_order_49 : decode cX10_order 49 = .ok (.ireturn, 1) := by decide +kernel
theorem dX10_order_50 : decode cX10_order 50 = .ok (.iload_n 3, 1) := by decide +kernel
theorem dX10_order_51 : decode cX10_order 51 = .ok (.iload_n 1, 1) := by decide +kernel
theorem dX10_order_52 : decode cX10_order 52 = .ok (.invokestatic 282, 3) := by decide +kernel
theorem dX10_order_55 : decode cX10_order 55 = .ok (.if_icmp .lt 6, 3) := by decide +kernel
theorem dX10_order_58 : decode cX10_order 58 = .ok (.bipush (-2), 2) := by decide +kernel
theorem dX10_order_60 : decode cX10_order 60 = .ok (.ireturn, 1) := by decide +kernel
theorem dX10_order_61 : decode cX10_order 61 = .ok (.aload_n 0, 1) := by decide +kernel
theorem dX10_order_62 : decode cX10_order 62 = .ok (.getfield 48, 3) := by decide +kernel
theorem dX10_order_65 : decode cX10_order 65 = .ok (.aload_n 0, 1) := by decide +kernel
theorem dX10_order_66 : decode cX10_order 66 = .ok (.getfield 42, 3) := by decide +kernel
theorem dX10_order_69 : decode cX10_order 69 = .ok (.invokevirtual 119, 3) := by decide +kernel
theorem dX10_order_72 : decode cX10_order 72 = .ok (.aload_n 0, 1) := by decide +kernel
theorem dX10_order_73 : decode cX10_order 73 = .ok (.getfield 79, 3) := by decide +kernel
theorem dX10_order_76 : decode cX10_order 76 = .ok (.aload_n 0, 1) := by decide +kernel
theorem dX10_order_77 : decode cX10_order 77 = .ok (.getfield 48, 3) := by decide +kernel
theorem dX10_order_80 : decode cX10_order 80 = .ok (.iload_n 1, 1) := by decide +kernel
theorem dX10_order_81 : decode cX10_order 81 = .ok (.iload_n 2, 1) := by decide +kernel
theorem dX10_order_82 : decode cX10_order 82 = .ok (.invokevirtual 287, 3) := by decide +kernel
theorem dX10_order_85 : decode cX10_order 85 = .ok (.ifCond .eq 15, 3) := by decide +kernel
theorem dX10_order_88 : decode cX10_order 88 = .ok (.aload_n 0, 1) := by decide +kernel
theorem dX10_order_89 : decode cX10_order 89 = .ok (.getfield 79, 3) := by decide +kernel
theorem dX10_order_92 : decode cX10_order 92 = .ok (.getfield 291, 3) := by decide +kernel
theorem dX10_order_95 : decode cX10_order 95 = .ok (.iload_n 3, 1) := by decide +kernel
theorem dX10_order_96 : decode cX10_order 96 = .ok (.iaload, 1) := by decide +kernel
theorem dX10_order_97 : decode cX10_order 97 = .ok (.goto 5, 3) := by decide +kernel
theorem dX10_order_100 : decode cX10_order 100 = .ok (.bipush (-2), 2) := by decide +kernel
theorem dX10_order_102 : decode cX10_order 102 = .ok (.ireturn, 1) := by decide +kernel
theorem dX10_drop_0 : decode cX10_drop 0 = .ok (.iload_n 1, 1) := by decide +kernel
theorem dX10_drop_1 : decode cX10_drop 1 = .ok (.iconst 1, 1) := by decide +kernel
theorem dX10_drop_2 : decode cX10_drop 2 = .ok (.if_icmp .lt 10, 3) := by decide +kernel
theorem dX10_drop_5 : decode cX10_drop 5 = .ok (.iload_n 1, 1) := by decide +kernel
theorem dX10_drop_6 : decode cX10_drop 6 = .ok (.sipush 9999, 3) := by decide +kernel
theorem dX10_drop_9 : decode cX10_drop 9 = .ok (.if_icmp .le 5, 3) := by decide +kernel
theorem dX10_drop_12 : decode cX10_drop 12 = .ok (.iconst (-1), 1) := by decide +kernel
theorem dX10_drop_13 : decode cX10_drop 13 = .ok (.ireturn, 1) := by decide +kernel
theorem dX10_drop_14 : decode cX10_drop 14 = .ok (.aload_n 0, 1) := by decide +kernel
theorem dX10_drop_15 : decode cX10_drop 15 = .ok (.getfield 65, 3) := by decide +kernel
theorem dX10_drop_18 : decode cX10_drop 18 = .ok (.aload_n 0, 1) := by decide +kernel
theorem dX10_drop_19 : decode cX10_drop 19 = .ok (.getfield 42, 3) := by decide +kernel
theorem dX10_drop_22 : decode cX10_drop 22 = .ok (.invokevirtual 294, 3) := by decide +kernel
theorem dX10_drop_25 : decode cX10_drop 25 = .ok (.aload_n 0, 1) := by decide +kernel
theorem dX10_drop_26 : decode cX10_drop 26 = .ok (.getfield 65, 3) := by decide +kernel
theorem dX10_drop_29 : decode cX10_drop 29 = .ok (.aload_n 0, 1) := by decide +kernel
theorem dX10_drop_30 : decode cX10_drop 30 = .ok (.getfield 42, 3) := by decide +kernel
theorem dX10_drop_33 : decode cX10_drop 33 = .ok (.iconst 0, 1) := by decide +kernel
theorem dX10_drop_34 : decode cX10_drop 34 = .ok (.invokevirtual 297, 3) := by decide +kernel
theorem dX10_drop_37 : decode cX10_drop 37 = .ok (.iload_n 1, 1) := by decide +kernel
theorem dX10_drop_38 : decode cX10_drop 38 = .ok (.if_icmp .ge 5, 3) := by decide +kernel
theorem dX10_drop_41 : decode cX10_drop 41 = .ok (.iconst 0, 1) := by decide +kernel
theorem dX10_drop_42 : decode cX10_drop 42 = .ok (.ireturn, 1) := by decide +kernel
theorem dX10_drop_43 : decode cX10_drop 43 = .ok (.aload_n 0, 1) := by decide +kernel
theorem dX10_drop_44 : decode cX10_drop 44 = .ok (.getfield 42, 3) := by decide +kernel
theorem dX10_drop_47 : decode cX10_drop 47 = .ok (.getfield 301, 3) := by decide +kernel
theorem dX10_drop_50 : decode cX10_drop 50 = .ok (.iload_n 1, 1) := by decide +kernel
theorem dX10_drop_51 : decode cX10_drop 51 = .ok (.if_icmp .lt 8, 3) := by decide +kernel
theorem dX10_drop_54 : decode cX10_drop 54 = .ok (.bipush (-2), 2) := by decide +kernel
theorem dX10_drop_56 : decode cX10_drop 56 = .ok (.goto 8, 3) := by decide +kernel
theorem dX10_drop_59 : decode cX10_drop 59 = .ok (.aload_n 0, 1) := by decide +kernel
theorem dX10_drop_60 : decode cX10_drop 60 = .ok (.iload_n 1, 1) := by decide +kernel
theorem dX10_drop_61 : decode cX10_drop 61 = .ok (.invokevirtual 304, 3) := by decide +kernel
theorem dX10_drop_64 : decode cX10_drop 64 = .ok (.ireturn, 1) := by decide +kernel
theorem dX10_fewestCuts_0 : decode cX10_fewestCuts 0 = .ok (.aload_n 0, 1) := by decide +kernel
theorem dX10_fewestCuts_1 : decode cX10_fewestCuts 1 = .ok (.getfield 42, 3) := by decide +kernel
theorem dX10_fewestCuts_4 : decode cX10_fewestCuts 4 = .ok (.invokevirtual 279, 3) := by decide +kernel
theorem dX10_fewestCuts_7 : decode cX10_fewestCuts 7 = .ok (.istore_n 2, 1) := by decide +kernel
theorem dX10_fewestCuts_8 : decode cX10_fewestCuts 8 = .ok (.bipush 13, 2) := by decide +kernel
theorem dX10_fewestCuts_10 : decode cX10_fewestCuts 10 = .ok (.istore_n 3, 1) := by decide +kernel
theorem dX10_fewestCuts_11 : decode cX10_fewestCuts 11 = .ok (.bipush (-2), 2) := by decide +kernel
theorem dX10_fewestCuts_13 : decode cX10_fewestCuts 13 = .ok (.istore 4, 2) := by decide +kernel
theorem dX10_fewestCuts_15 : decode cX10_fewestCuts 15 = .ok (.iconst 1, 1) := by decide +kernel
theorem dX10_fewestCuts_16 : decode cX10_fewestCuts 16 = .ok (.istore 5, 2) := by decide +kernel
theorem dX10_fewestCuts_18 : decode cX10_fewestCuts 18 = .ok (.iload 5, 2) := by decide +kernel
theorem dX10_fewestCuts_20 : decode cX10_fewestCuts 20 = .ok (.iload_n 2, 1) := by decide +kernel
theorem dX10_fewestCuts_21 : decode cX10_fewestCuts 21 = .ok (.if_icmp .gt 66, 3) := by decide +kernel
theorem dX10_fewestCuts_24 : decode cX10_fewestCuts 24 = .ok (.iload 5, 2) := by decide +kernel
theorem dX10_fewestCuts_26 : decode cX10_fewestCuts 26 = .ok (.iload_n 2, 1) := by decide +kernel
theorem dX10_fewestCuts_27 : decode cX10_fewestCuts 27 = .ok (.iconst (-1), 1) := by decide +kernel
theorem dX10_fewestCuts_28 : decode cX10_fewestCuts 28 = .ok (.ixor, 1) := by decide +kernel
theorem dX10_fewestCuts_29 : decode cX10_fewestCuts 29 = .ok (.iand, 1) := by decide +kernel
theorem dX10_fewestCuts_30 : decode cX10_fewestCuts 30 = .ok (.ifCond .ne 16, 3) := by decide +kernel
theorem dX10_fewestCuts_33 : decode cX10_fewestCuts 33 = .ok (.iload 5, 2) := by decide +kernel
theorem dX10_fewestCuts_35 : decode cX10_fewestCuts 35 = .ok (.invokestatic 282, 3) := by decide +kernel
theorem dX10_fewestCuts_38 : decode cX10_fewestCuts 38 = .ok (.iload_n 3, 1) := by decide +kernel
theorem dX10_fewestCuts_39 : decode cX10_fewestCuts 39 = .ok (.if_icmp .ge 7, 3) := by decide +kernel
theorem dX10_fewestCuts_42 : decode cX10_fewestCuts 42 = .ok (.iconst 1, 1) := by decide +kernel
theorem dX10_fewestCuts_43 : decode cX10_fewestCuts 43 = .ok (.goto 4, 3) := by decide +kernel
theorem dX10_fewestCuts_46 : decode cX10_fewestCuts 46 = .ok (.iconst 0, 1) := by decide +kernel
theorem dX10_fewestCuts_47 : decode cX10_fewestCuts 47 = .ok (.istore 6, 2) := by decide +kernel
theorem dX10_fewestCuts_49 : decode cX10_fewestCuts 49 = .ok (.iload 6, 2) := by decide +kernel
theorem dX10_fewestCuts_51 : decode cX10_fewestCuts 51 = .ok (.ifCond .eq 30, 3) := by decide +kernel
theorem dX10_fewestCuts_54 : decode cX10_fewestCuts 54 = .ok (.aload_n 0, 1) := by decide +kernel
theorem dX10_fewestCuts_55 : decode cX10_fewestCuts 55 = .ok (.getfield 65, 3) := by decide +kernel
theorem dX10_fewestCuts_58 : decode cX10_fewestCuts 58 = .ok (.aload_n 0, 1) := by decide +kernel
theorem dX10_fewestCuts_59 : decode cX10_fewestCuts 59 = .ok (.getfield 42, 3) := by decide +kernel
theorem dX10_fewestCuts_62 : decode cX10_fewestCuts 62 = .ok (.iload 5, 2) := by decide +kernel
theorem dX10_fewestCuts_64 : decode cX10_fewestCuts 64 = .ok (.invokevirtual 297, 3) := by decide +kernel
theorem dX10_fewestCuts_67 : decode cX10_fewestCuts 67 = .ok (.iload_n 1, 1) := by decide +kernel
theorem dX10_fewestCuts_68 : decode cX10_fewestCuts 68 = .ok (.if_icmp .ge 13, 3) := by decide +kernel
theorem dX10_fewestCuts_71 : decode cX10_fewestCuts 71 = .ok (.iload 5, 2) := by decide +kernel
theorem dX10_fewestCuts_73 : decode cX10_fewestCuts 73 = .ok (.invokestatic 282, 3) := by decide +kernel
theorem dX10_fewestCuts_76 : decode cX10_fewestCuts 76 = .ok (.istore_n 3, 1) := by decide +kernel
theorem dX10_fewestCuts_77 : decode cX10_fewestCuts 77 = .ok (.iload 5, 2) := by decide +kernel
theorem dX10_fewestCuts_79 : decode cX10_fewestCuts 79 = .ok (.istore 4, 2) := by decide +kernel
theorem dX10_fewestCuts_81 : decode cX10_fewestCuts 81 = .ok (.iinc 5 1, 3) := by decide +kernel
theorem dX10_fewestCuts_84 : decode cX10_fewestCuts 84 = .ok (.goto (-66), 3) := by decide +kernel
theorem dX10_fewestCuts_87 : decode cX10_fewestCuts 87 = .ok (.iload 4, 2) := by decide +kernel
theorem dX10_fewestCuts_89 : decode cX10_fewestCuts 89 = .ok (.ireturn, 1) := by decide +kernel
theorem dX10_loan_0 : decode cX10_loan 0 = .ok (.iload_n 1, 1) := by decide +kernel
theorem dX10_loan_1 : decode cX10_loan 1 = .ok (.iconst 1, 1) := by decide +kernel
theorem dX10_loan_2 : decode cX10_loan 2 = .ok (.if_icmp .lt 10, 3) := by decide +kernel
theorem dX10_loan_5 : decode cX10_loan 5 = .ok (.iload_n 1, 1) := by decide +kernel
theorem dX10_loan_6 : decode cX10_loan 6 = .ok (.sipush 9999, 3) := by decide +kernel
theorem dX10_loan_9 : decode cX10_loan 9 = .ok (.if_icmp .le 5, 3) := by decide +kernel
theorem dX10_loan_12 : decode cX10_loan 12 = .ok (.iconst (-1), 1) := by decide +kernel
theorem dX10_loan_13 : decode cX10_loan 13 = .ok (.ireturn, 1) := by decide +kernel
theorem dX10_loan_14 : decode cX10_loan 14 = .ok (.aload_n 0, 1) := by decide +kernel
theorem dX10_loan_15 : decode cX10_loan 15 = .ok (.getfield 42, 3) := by decide +kernel
theorem dX10_loan_18 : decode cX10_loan 18 = .ok (.invokevirtual 239, 3) := by decide +kernel
theorem dX10_loan_21 : decode cX10_loan 21 = .ok (.istore_n 2, 1) := by decide +kernel
theorem dX10_loan_22 : decode cX10_loan 22 = .ok (.iload_n 2, 1) := by decide +kernel
theorem dX10_loan_23 : decode cX10_loan 23 = .ok (.iload_n 1, 1) := by decide +kernel
theorem dX10_loan_24 : decode cX10_loan 24 = .ok (.if_icmp .lt 5, 3) := by decide +kernel
theorem dX10_loan_27 : decode cX10_loan 27 = .ok (.iconst 0, 1) := by decide +kernel
theorem dX10_loan_28 : decode cX10_loan 28 = .ok (.ireturn, 1) := by decide +kernel
theorem dX10_loan_29 : decode cX10_loan 29 = .ok (.iconst 1, 1) := by decide +kernel
theorem dX10_loan_30 : decode cX10_loan 30 = .ok (.istore_n 3, 1) := by decide +kernel
theorem dX10_loan_31 : decode cX10_loan 31 = .ok (.iload_n 3, 1) := by decide +kernel
theorem dX10_loan_32 : decode cX10_loan 32 = .ok (.sipush 999, 3) := by decide +kernel
theorem dX10_loan_35 : decode cX10_loan 35 = .ok (.if_icmp .gt 25, 3) := by decide +kernel
theorem dX10_loan_38 : decode cX10_loan 38 = .ok (.iload_n 2, 1) := by decide +kernel
theorem dX10_loan_39 : decode cX10_loan 39 = .ok (.aload_n 0, 1) := by decide +kernel
theorem dX10_loan_40 : decode cX10_loan 40 = .ok (.getfield 42, 3) := by decide +kernel
theorem dX10_loan_43 : decode cX10_loan 43 = .ok (.iload_n 3, 1) := by decide +kernel
theorem dX10_loan_44 : decode cX10_loan 44 = .ok (.invokevirtual 307, 3) := by decide +kernel
theorem dX10_loan_47 : decode cX10_loan 47 = .ok (.iadd, 1) := by decide +kernel
theorem dX10_loan_48 : decode cX10_loan 48 = .ok (.iload_n 1, 1) := by decide +kernel
theorem dX10_loan_49 : decode cX10_loan 49 = .ok (.if_icmp .lt 5, 3) := by decide +kernel
theorem dX10_loan_52 : decode cX10_loan 52 = .ok (.iload_n 3, 1) := by decide +kernel
theorem dX10_loan_53 : decode cX10_loan 53 = .ok (.ireturn, 1) := by decide +kernel
theorem dX10_loan_54 : decode cX10_loan 54 = .ok (.iinc 3 1, 3) := by decide +kernel
theorem dX10_loan_57 : decode cX10_loan 57 = .ok (.goto (-26), 3) := by decide +kernel
theorem dX10_loan_60 : decode cX10_loan 60 = .ok (.bipush (-2), 2) := by decide +kernel
theorem dX10_loan_62 : decode cX10_loan 62 = .ok (.ireturn, 1) := by decide +kernel
theorem dX10_strike_0 : decode cX10_strike 0 = .ok (.aload_n 0, 1) := by decide +kernel
theorem dX10_strike_1 : decode cX10_strike 1 = .ok (.iload_n 1, 1) := by decide +kernel
theorem dX10_strike_2 : decode cX10_strike 2 = .ok (.invokevirtual 137, 3) := by decide +kernel
theorem dX10_strike_5 : decode cX10_strike 5 = .ok (.ifCond .eq 16, 3) := by decide +kernel
theorem dX10_strike_8 : decode cX10_strike 8 = .ok (.aload_n 0, 1) := by decide +kernel
theorem dX10_strike_9 : decode cX10_strike 9 = .ok (.iload_n 2, 1) := by decide +kernel
theorem dX10_strike_10 : decode cX10_strike 10 = .ok (.invokevirtual 137, 3) := by decide +kernel
theorem dX10_strike_13 : decode cX10_strike 13 = .ok (.ifCond .eq 8, 3) := by decide +kernel
theorem dX10_strike_16 : decode cX10_strike 16 = .ok (.iload_n 1, 1) := by decide +kernel
theorem dX10_strike_17 : decode cX10_strike 17 = .ok (.iload_n 2, 1) := by decide +kernel
theorem dX10_strike_18 : decode cX10_strike 18 = .ok (.if_icmp .ne 5, 3) := by decide +kernel
theorem dX10_strike_21 : decode cX10_strike 21 = .ok (.iconst (-1), 1) := by decide +kernel
theorem dX10_strike_22 : decode cX10_strike 22 = .ok (.ireturn, 1) := by decide +kernel
theorem dX10_strike_23 : decode cX10_strike 23 = .ok (.aload_n 0, 1) := by decide +kernel
theorem dX10_strike_24 : decode cX10_strike 24 = .ok (.getfield 42, 3) := by decide +kernel
theorem dX10_strike_27 : decode cX10_strike 27 = .ok (.iload_n 1, 1) := by decide +kernel
theorem dX10_strike_28 : decode cX10_strike 28 = .ok (.iload_n 2, 1) := by decide +kernel
theorem dX10_strike_29 : decode cX10_strike 29 = .ok (.invokevirtual 160, 3) := by decide +kernel
theorem dX10_strike_32 : decode cX10_strike 32 = .ok (.aload_n 0, 1) := by decide +kernel
theorem dX10_strike_33 : decode cX10_strike 33 = .ok (.getfield 42, 3) := by decide +kernel
theorem dX10_strike_36 : decode cX10_strike 36 = .ok (.iload_n 2, 1) := by decide +kernel
theorem dX10_strike_37 : decode cX10_strike 37 = .ok (.iload_n 1, 1) := by decide +kernel
theorem dX10_strike_38 : decode cX10_strike 38 = .ok (.invokevirtual 160, 3) := by decide +kernel
theorem dX10_strike_41 : decode cX10_strike 41 = .ok (.invokestatic 246, 3) := by decide +kernel
theorem dX10_strike_44 : decode cX10_strike 44 = .ok (.ireturn, 1) := by decide +kernel
theorem dX10_twists_0 : decode cX10_twists 0 = .ok (.iload_n 1, 1) := by decide +kernel
theorem dX10_twists_1 : decode cX10_twists 1 = .ok (.ifCond .lt 8, 3) := by decide +kernel
theorem dX10_twists_4 : decode cX10_twists 4 = .ok (.iload_n 1, 1) := by decide +kernel
theorem dX10_twists_5 : decode cX10_twists 5 = .ok (.iconst 5, 1) := by decide +kernel
theorem dX10_twists_6 : decode cX10_twists 6 = .ok (.if_icmp .le 5, 3) := by decide +kernel
theorem dX10_twists_9 : decode cX10_twists 9 = .ok (.iconst (-1), 1) := by decide +kernel
theorem dX10_twists_10 : decode cX10_twists 10 = .ok (.ireturn, 1) := by decide +kernel
theorem dX10_twists_11 : decode cX10_twists 11 = .ok (.aload_n 0, 1) := by decide +kernel
theorem dX10_twists_12 : decode cX10_twists 12 = .ok (.getfield 65, 3) := by decide +kernel
theorem dX10_twists_15 : decode cX10_twists 15 = .ok (.aload_n 0, 1) := by decide +kernel
theorem dX10_twists_16 : decode cX10_twists 16 = .ok (.getfield 42, 3) := by decide +kernel
theorem dX10_twists_19 : decode cX10_twists 19 = .ok (.invokevirtual 294, 3) := by decide +kernel
theorem dX10_twists_22 : decode cX10_twists 22 = .ok (.aload_n 0, 1) := by decide +kernel
theorem dX10_twists_23 : decode cX10_twists 23 = .ok (.getfield 65, 3) := by decide +kernel
theorem dX10_twists_26 : decode cX10_twists 26 = .ok (.aload_n 0, 1) := by decide +kernel
theorem dX10_twists_27 : decode cX10_twists 27 = .ok (.getfield 42, 3) := by decide +kernel
theorem dX10_twists_30 : decode cX10_twists 30 = .ok (.invokevirtual 310, 3) := by decide +kernel
theorem dX10_twists_33 : decode cX10_twists 33 = .ok (.aload_n 0, 1) := by decide +kernel
theorem dX10_twists_34 : decode cX10_twists 34 = .ok (.getfield 72, 3) := by decide +kernel
theorem dX10_twists_37 : decode cX10_twists 37 = .ok (.aload_n 0, 1) := by decide +kernel
theorem dX10_twists_38 : decode cX10_twists 38 = .ok (.getfield 65, 3) := by decide +kernel
theorem dX10_twists_41 : decode cX10_twists 41 = .ok (.getfield 314, 3) := by decide +kernel
theorem dX10_twists_44 : decode cX10_twists 44 = .ok (.aload_n 0, 1) := by decide +kernel
theorem dX10_twists_45 : decode cX10_twists 45 = .ok (.getfield 42, 3) := by decide +kernel
theorem dX10_twists_48 : decode cX10_twists 48 = .ok (.invokevirtual 279, 3) := by decide +kernel
theorem dX10_twists_51 : decode cX10_twists 51 = .ok (.iload_n 1, 1) := by decide +kernel
theorem dX10_twists_52 : decode cX10_twists 52 = .ok (.invokevirtual 317, 3) := by decide +kernel
theorem dX10_twists_55 : decode cX10_twists 55 = .ok (.iadd, 1) := by decide +kernel
theorem dX10_twists_56 : decode cX10_twists 56 = .ok (.ireturn, 1) := by decide +kernel
theorem dX10_partner_0 : decode cX10_partner 0 = .ok (.iload_n 1, 1) := by decide +kernel
theorem dX10_partner_1 : decode cX10_partner 1 = .ok (.ifCond .lt 19, 3) := by decide +kernel
theorem dX10_partner_4 : decode cX10_partner 4 = .ok (.iload_n 1, 1) := by decide +kernel
theorem dX10_partner_5 : decode cX10_partner 5 = .ok (.iconst 5, 1) := by decide +kernel
theorem dX10_partner_6 : decode cX10_partner 6 = .ok (.if_icmp .gt 14, 3) := by decide +kernel
theorem dX10_partner_9 : decode cX10_partner 9 = .ok (.aload_n 0, 1) := by decide +kernel
theorem dX10_partner_10 : decode cX10_partner 10 = .ok (.getfield 42, 3) := by decide +kernel
theorem dX10_partner_13 : decode cX10_partner 13 = .ok (.iload_n 2, 1) := by decide +kernel
theorem dX10_partner_14 : decode cX10_partner 14 = .ok (.invokevirtual 220, 3) := by decide +kernel
theorem dX10_partner_17 : decode cX10_partner 17 = .ok (.ifCond .ne 5, 3) := by decide +kernel
theorem dX10_partner_20 : decode cX10_partner 20 = .ok (.iconst (-1), 1) := by decide +kernel
theorem dX10_partner_21 : decode cX10_partner 21 = .ok (.ireturn, 1) := by decide +kernel
theorem dX10_partner_22 : decode cX10_partner 22 = .ok (.aload_n 0, 1) := by decide +kernel
theorem dX10_partner_23 : decode cX10_partner 23 = .ok (.getfield 65, 3) := by decide +kernel
theorem dX10_partner_26 : decode cX10_partner 26 = .ok (.aload_n 0, 1) := by decide +kernel
theorem dX10_partner_27 : decode cX10_partner 27 = .ok (.getfield 42, 3) := by decide +kernel
theorem dX10_partner_30 : decode cX10_partner 30 = .ok (.invokevirtual 294, 3) := by decide +kernel
theorem dX10_partner_33 : decode cX10_partner 33 = .ok (.aload_n 0, 1) := by decide +kernel
theorem dX10_partner_34 : decode cX10_partner 34 = .ok (.getfield 72, 3) := by decide +kernel
theorem dX10_partner_37 : decode cX10_partner 37 = .ok (.aload_n 0, 1) := by decide +kernel
theorem dX10_partner_38 : decode cX10_partner 38 = .ok (.getfield 65, 3) := by decide +kernel
theorem dX10_partner_41 : decode cX10_partner 41 = .ok (.getfield 314, 3) := by decide +kernel
theorem dX10_partner_44 : decode cX10_partner 44 = .ok (.aload_n 0, 1) := by decide +kernel
theorem dX10_partner_45 : decode cX10_partner 45 = .ok (.getfield 42, 3) := by decide +kernel
theorem dX10_partner_48 : decode cX10_partner 48 = .ok (.invokevirtual 279, 3) := by decide +kernel
theorem dX10_partner_51 : decode cX10_partner 51 = .ok (.iload_n 1, 1) := by decide +kernel
theorem dX10_partner_52 : decode cX10_partner 52 = .ok (.invokevirtual 321, 3) := by decide +kernel
theorem dX10_partner_55 : decode cX10_partner 55 = .ok (.aload_n 0, 1) := by decide +kernel
theorem dX10_partner_56 : decode cX10_partner 56 = .ok (.getfield 72, 3) := by decide +kernel
theorem dX10_partner_59 : decode cX10_partner 59 = .ok (.getfield 325, 3) := by decide +kernel
theorem dX10_partner_62 : decode cX10_partner 62 = .ok (.iload_n 2, 1) := by decide +kernel
theorem dX10_partner_63 : decode cX10_partner 63 = .ok (.iaload, 1) := by decide +kernel
theorem dX10_partner_64 : decode cX10_partner 64 = .ok (.ireturn, 1) := by decide +kernel
theorem dX10_life_0 : decode cX10_life 0 = .ok (.aload_n 0, 1) := by decide +kernel
theorem dX10_life_1 : decode cX10_life 1 = .ok (.getfield 42, 3) := by decide +kernel
theorem dX10_life_4 : decode cX10_life 4 = .ok (.iload_n 1, 1) := by decide +kernel
theorem dX10_life_5 : decode cX10_life 5 = .ok (.invokevirtual 172, 3) := by decide +kernel
theorem dX10_life_8 : decode cX10_life 8 = .ok (.ifCond .ne 5, 3) := by decide +kernel
theorem dX10_life_11 : decode cX10_life 11 = .ok (.iconst (-1), 1) := by decide +kernel
theorem dX10_life_12 : decode cX10_life 12 = .ok (.ireturn, 1) := by decide +kernel
theorem dX10_life_13 : decode cX10_life 13 = .ok (.aload_n 0, 1) := by decide +kernel
theorem dX10_life_14 : decode cX10_life 14 = .ok (.getfield 48, 3) := by decide +kernel
theorem dX10_life_17 : decode cX10_life 17 = .ok (.aload_n 0, 1) := by decide +kernel
theorem dX10_life_18 : decode cX10_life 18 = .ok (.getfield 42, 3) := by decide +kernel
theorem dX10_life_21 : decode cX10_life 21 = .ok (.invokevirtual 119, 3) := by decide +kernel
theorem dX10_life_24 : decode cX10_life 24 = .ok (.iconst 0, 1) := by decide +kernel
theorem dX10_life_25 : decode cX10_life 25 = .ok (.istore_n 2, 1) := by decide +kernel
theorem dX10_life_26 : decode cX10_life 26 = .ok (.iconst 0, 1) := by decide +kernel
theorem dX10_life_27 : decode cX10_life 27 = .ok (.istore_n 3, 1) := by decide +kernel
theorem dX10_life_28 : decode cX10_life 28 = .ok (.iload_n 3, 1) := by decide +kernel
theorem dX10_life_29 : decode cX10_life 29 = .ok (.bipush 99, 2) := by decide +kernel
theorem dX10_life_31 : decode cX10_life 31 = .ok (.if_icmp .ge 32, 3) := by decide +kernel
theorem dX10_life_34 : decode cX10_life 34 = .ok (.aload_n 0, 1) := by decide +kernel
theorem dX10_life_35 : decode cX10_life 35 = .ok (.getfield 48, 3) := by decide +kernel
theorem dX10_life_38 : decode cX10_life 38 = .ok (.iload_n 1, 1) := by decide +kernel
theorem dX10_life_39 : decode cX10_life 39 = .ok (.invokevirtual 220, 3) := by decide +kernel
theorem dX10_life_42 : decode cX10_life 42 = .ok (.ifCond .eq 21, 3) := by decide +kernel
theorem dX10_life_45 : decode cX10_life 45 = .ok (.aload_n 0, 1) := by decide +kernel
theorem dX10_life_46 : decode cX10_life 46 = .ok (.getfield 48, 3) := by decide +kernel
theorem dX10_life_49 : decode cX10_life 49 = .ok (.iconst (-1), 1) := by decide +kernel
theorem dX10_life_50 : decode cX10_life 50 = .ok (.invokevirtual 276, 3) := by decide +kernel
theorem dX10_life_53 : decode cX10_life 53 = .ok (.pop, 1) := by decide +kernel
theorem dX10_life_54 : decode cX10_life 54 = .ok (.iinc 2 1, 3) := by decide +kernel
theorem dX10_life_57 : decode cX10_life 57 = .ok (.iinc 3 1, 3) := by decide +kernel
theorem dX10_life_60 : decode cX10_life 60 = .ok (.goto (-32), 3) := by decide +kernel
theorem dX10_life_63 : decode cX10_life 63 = .ok (.iload_n 2, 1) := by decide +kernel
theorem dX10_life_64 : decode cX10_life 64 = .ok (.ireturn, 1) := by decide +kernel
theorem dX10_ahead_0 : decode cX10_ahead 0 = .ok (.iload_n 1, 1) := by decide +kernel
theorem dX10_ahead_1 : decode cX10_ahead 1 = .ok (.ifCond .lt 9, 3) := by decide +kernel
theorem dX10_ahead_4 : decode cX10_ahead 4 = .ok (.iload_n 1, 1) := by decide +kernel
theorem dX10_ahead_5 : decode cX10_ahead 5 = .ok (.bipush 99, 2) := by decide +kernel
theorem dX10_ahead_7 : decode cX10_ahead 7 = .ok (.if_icmp .le 5, 3) := by decide +kernel
theorem dX10_ahead_10 : decode cX10_ahead 10 = .ok (.iconst (-1), 1) := by decide +kernel
theorem dX10_ahead_11 : decode cX10_ahead 11 = .ok (.ireturn, 1) := by decide +kernel
theorem dX10_ahead_12 : decode cX10_ahead 12 = .ok (.aload_n 0, 1) := by decide +kernel
theorem dX10_ahead_13 : decode cX10_ahead 13 = .ok (.getfield 48, 3) := by decide +kernel
theorem dX10_ahead_16 : decode cX10_ahead 16 = .ok (.aload_n 0, 1) := by decide +kernel
theorem dX10_ahead_17 : decode cX10_ahead 17 = .ok (.getfield 42, 3) := by decide +kernel
theorem dX10_ahead_20 : decode cX10_ahead 20 = .ok (.invokevirtual 119, 3) := by decide +kernel
theorem dX10_ahead_23 : decode cX10_ahead 23 = .ok (.iconst (-1), 1) := by decide +kernel
theorem dX10_ahead_24 : decode cX10_ahead 24 = .ok (.istore_n 2, 1) := by decide +kernel
theorem dX10_ahead_25 : decode cX10_ahead 25 = .ok (.iconst 0, 1) := by decide +kernel
theorem dX10_ahead_26 : decode cX10_ahead 26 = .ok (.istore_n 3, 1) := by decide +kernel
theorem dX10_ahead_27 : decode cX10_ahead 27 = .ok (.iload_n 3, 1) := by decide +kernel
theorem dX10_ahead_28 : decode cX10_ahead 28 = .ok (.iload_n 1, 1) := by decide +kernel
theorem dX10_ahead_29 : decode cX10_ahead 29 = .ok (.if_icmp .ge 23, 3) := by decide +kernel
theorem dX10_ahead_32 : decode cX10_ahead 32 = .ok (.iload_n 2, 1) := by decide +kernel
theorem dX10_ahead_33 : decode cX10_ahead 33 = .ok (.iconst (-1), 1) := by decide +kernel
theorem dX10_ahead_34 : decode cX10_ahead 34 = .ok (.if_icmp .ne 18, 3) := by decide +kernel
theorem dX10_ahead_37 : decode cX10_ahead 37 = .ok (.aload_n 0, 1) := by decide +kernel
theorem dX10_ahead_38 : decode cX10_ahead 38 = .ok (.getfield 48, 3) := by decide +kernel
theorem dX10_ahead_41 : decode cX10_ahead 41 = .ok (.iconst (-1), 1) := by decide +kernel
theorem dX10_ahead_42 : decode cX10_ahead 42 = .ok (.invokevirtual 276, 3) := by decide +kernel
theorem dX10_ahead_45 : decode cX10_ahead 45 = .ok (.istore_n 2, 1) := by decide +kernel
theorem dX10_ahead_46 : decode cX10_ahead 46 = .ok (.iinc 3 1, 3) := by decide +kernel
theorem dX10_ahead_49 : decode cX10_ahead 49 = .ok (.goto (-22), 3) := by decide +kernel
theorem dX10_ahead_52 : decode cX10_ahead 52 = .ok (.iload_n 2, 1) := by decide +kernel
theorem dX10_ahead_53 : decode cX10_ahead 53 = .ok (.iconst (-1), 1) := by decide +kernel
theorem dX10_ahead_54 : decode cX10_ahead 54 = .ok (.if_icmp .ne 8, 3) := by decide +kernel
theorem dX10_ahead_57 : decode cX10_ahead 57 = .ok (.bipush (-2), 2) := by decide +kernel
theorem dX10_ahead_59 : decode cX10_ahead 59 = .ok (.goto 4, 3) := by decide +kernel
theorem dX10_ahead_62 : decode cX10_ahead 62 = .ok (.iload_n 2, 1) := by decide +kernel
theorem dX10_ahead_63 : decode cX10_ahead 63 = .ok (.ireturn, 1) := by decide +kernel
theorem dX10_see_0 : decode cX10_see 0 = .ok (.iload_n 1, 1) := by decide +kernel
theorem dX10_see_1 : decode cX10_see 1 = .ok (.ifCond .lt 25, 3) := by decide +kernel
theorem dX10_see_4 : decode cX10_see 4 = .ok (.iload_n 1, 1) := by decide +kernel
theorem dX10_see_5 : decode cX10_see 5 = .ok (.bipush 50, 2) := by decide +kernel
theorem dX10_see_7 : decode cX10_see 7 = .ok (.if_icmp .gt 19, 3) := by decide +kernel
theorem dX10_see_10 : decode cX10_see 10 = .ok (.iload_n 2, 1) := by decide +kernel
theorem dX10_see_11 : decode cX10_see 11 = .ok (.iconst 1, 1) := by decide +kernel
theorem dX10_see_12 : decode cX10_see 12 = .ok (.if_icmp .lt 14, 3) := by decide +kernel
theorem dX10_see_15 : decode cX10_see 15 = .ok (.iload_n 2, 1) := by decide +kernel
theorem dX10_see_16 : decode cX10_see 16 = .ok (.sipush 999, 3) := by decide +kernel
theorem dX10_see_19 : decode cX10_see 19 = .ok (.if_icmp .gt 7, 3) := by decide +kernel
theorem dX10_see_22 : decode cX10_see 22 = .ok (.iconst 1, 1) := by decide +kernel
theorem dX10_see_23 : decode cX10_see 23 = .ok (.goto 4, 3) := by decide +kernel
theorem dX10_see_26 : decode cX10_see 26 = .ok (.iconst 0, 1) := by decide +kernel
theorem dX10_see_27 : decode cX10_see 27 = .ok (.istore 5, 2) := by decide +kernel
theorem dX10_see_29 : decode cX10_see 29 = .ok (.iload 5, 2) := by decide +kernel
theorem dX10_see_31 : decode cX10_see 31 = .ok (.ifCond .eq 14, 3) := by decide +kernel
theorem dX10_see_34 : decode cX10_see 34 = .ok (.iload_n 3, 1) := by decide +kernel
theorem dX10_see_35 : decode cX10_see 35 = .ok (.ifCond .lt 10, 3) := by decide +kernel
theorem dX10_see_38 : decode cX10_see 38 = .ok (.iload_n 3, 1) := by decide +kernel
theorem dX10_see_39 : decode cX10_see 39 = .ok (.sipush 9999, 3) := by decide +kernel
theorem dX10_see_42 : decode cX10_see 42 = .ok (.if_icmp .le 5, 3) := by decide +kernel
theorem dX10_see_45 : decode cX10_see 45 = .ok (.iconst (-1), 1) := by decide +kernel
theorem dX10_see_46 : decode cX10_see 46 = .ok (.ireturn, 1) := by decide +kernel
theorem dX10_see_47 : decode cX10_see 47 = .ok (.aload_n 0, 1) := by decide +kernel
theorem dX10_see_48 : decode cX10_see 48 = .ok (.getfield 58, 3) := by decide +kernel
theorem dX10_see_51 : decode cX10_see 51 = .ok (.iload_n 1, 1) := by decide +kernel
theorem dX10_see_52 : decode cX10_see 52 = .ok (.iload_n 2, 1) := by decide +kernel
theorem dX10_see_53 : decode cX10_see 53 = .ok (.iload_n 3, 1) := by decide +kernel
theorem dX10_see_54 : decode cX10_see 54 = .ok (.iload 4, 2) := by decide +kernel
theorem dX10_see_56 : decode cX10_see 56 = .ok (.ifCond .eq 7, 3) := by decide +kernel
theorem dX10_see_59 : decode cX10_see 59 = .ok (.iconst 1, 1) := by decide +kernel
theorem dX10_see_60 : decode cX10_see 60 = .ok (.goto 4, 3) := by decide +kernel
theorem dX10_see_63 : decode cX10_see 63 = .ok (.iconst 0, 1) := by decide +kernel
theorem dX10_see_64 : decode cX10_see 64 = .ok (.invokevirtual 328, 3) := by decide +kernel
theorem dX10_see_67 : decode cX10_see 67 = .ok (.ireturn, 1) := by decide +kernel
theorem dX10_strikes_0 : decode cX10_strikes 0 = .ok (.iload_n 1, 1) := by decide +kernel
theorem dX10_strikes_1 : decode cX10_strikes 1 = .ok (.ifCond .lt 14, 3) := by decide +kernel
theorem dX10_strikes_4 : decode cX10_strikes 4 = .ok (.iload_n 1, 1) := by decide +kernel
theorem dX10_strikes_5 : decode cX10_strikes 5 = .ok (.aload_n 0, 1) := by decide +kernel
theorem dX10_strikes_6 : decode cX10_strikes 6 = .ok (.getfield 58, 3) := by decide +kernel
theorem dX10_strikes_9 : decode cX10_strikes 9 = .ok (.getfield 332, 3) := by decide +kernel
theorem dX10_strikes_12 : decode cX10_strikes 12 = .ok (.if_icmp .lt 5, 3) := by decide +kernel
theorem dX10_strikes_15 : decode cX10_strikes 15 = .ok (.iconst (-1), 1) := by decide +kernel
theorem dX10_strikes_16 : decode cX10_strikes 16 = .ok (.ireturn, 1) := by decide +kernel
theorem dX10_strikes_17 : decode cX10_strikes 17 = .ok (.aload_n 0, 1) := by decide +kernel
theorem dX10_strikes_18 : decode cX10_strikes 18 = .ok (.getfield 58, 3) := by decide +kernel
theorem dX10_strikes_21 : decode cX10_strikes 21 = .ok (.iload_n 1, 1) := by decide +kernel
theorem dX10_strikes_22 : decode cX10_strikes 22 = .ok (.iconst 0, 1) := by decide +kernel
theorem dX10_strikes_23 : decode cX10_strikes 23 = .ok (.iconst 0, 1) := by decide +kernel
theorem dX10_strikes_24 : decode cX10_strikes 24 = .ok (.iconst 2, 1) := by decide +kernel
theorem dX10_strikes_25 : decode cX10_strikes 25 = .ok (.invokevirtual 328, 3) := by decide +kernel
theorem dX10_strikes_28 : decode cX10_strikes 28 = .ok (.ireturn, 1) := by decide +kernel
theorem dX10_known_0 : decode cX10_known 0 = .ok (.iload_n 1, 1) := by decide +kernel
theorem dX10_known_1 : decode cX10_known 1 = .ok (.iconst (-1), 1) := by decide +kernel
theorem dX10_known_2 : decode cX10_known 2 = .ok (.if_icmp .lt 14, 3) := by decide +kernel
theorem dX10_known_5 : decode cX10_known 5 = .ok (.iload_n 1, 1) := by decide +kernel
theorem dX10_known_6 : decode cX10_known 6 = .ok (.aload_n 0, 1) := by decide +kernel
theorem dX10_known_7 : decode cX10_known 7 = .ok (.getfield 58, 3) := by decide +kernel
theorem dX10_known_10 : decode cX10_known 10 = .ok (.getfield 332, 3) := by decide +kernel
theorem dX10_known_13 : decode cX10_known 13 = .ok (.if_icmp .le 5, 3) := by decide +kernel
theorem dX10_known_16 : decode cX10_known 16 = .ok (.iconst 0, 1) := by decide +kernel
theorem dX10_known_17 : decode cX10_known 17 = .ok (.ireturn, 1) := by decide +kernel
theorem dX10_known_18 : decode cX10_known 18 = .ok (.aload_n 0, 1) := by decide +kernel
theorem dX10_known_19 : decode cX10_known 19 = .ok (.getfield 58, 3) := by decide +kernel
theorem dX10_known_22 : decode cX10_known 22 = .ok (.iload_n 1, 1) := by decide +kernel
theorem dX10_known_23 : decode cX10_known 23 = .ok (.putfield 335, 3) := by decide +kernel
theorem dX10_known_26 : decode cX10_known 26 = .ok (.iconst 1, 1) := by decide +kernel
theorem dX10_known_27 : decode cX10_known 27 = .ok (.ireturn, 1) := by decide +kernel
theorem dX10_painted_0 : decode cX10_painted 0 = .ok (.aload_n 0, 1) := by decide +kernel
theorem dX10_painted_1 : decode cX10_painted 1 = .ok (.getfield 58, 3) := by decide +kernel
theorem dX10_painted_4 : decode cX10_painted 4 = .ok (.invokevirtual 338, 3) := by decide +kernel
theorem dX10_painted_7 : decode cX10_painted 7 = .ok (.istore_n 1, 1) := by decide +kernel
theorem dX10_painted_8 : decode cX10_painted 8 = .ok (.iconst 0, 1) := by decide +kernel
theorem dX10_painted_9 : decode cX10_painted 9 = .ok (.istore_n 2, 1) := by decide +kernel
theorem dX10_painted_10 : decode cX10_painted 10 = .ok (.iconst 0, 1) := by decide +kernel
theorem dX10_painted_11 : decode cX10_painted 11 = .ok (.istore_n 3, 1) := by decide +kernel
theorem dX10_painted_12 : decode cX10_painted 12 = .ok (.iload_n 3, 1) := by decide +kernel
theorem dX10_painted_13 : decode cX10_painted 13 = .ok (.aload_n 0, 1) := by decide +kernel
theorem dX10_painted_14 : decode cX10_painted 14 = .ok (.getfield 29, 3) := by decide +kernel
theorem dX10_painted_17 : decode cX10_painted 17 = .ok (.getfield 341, 3) := by decide +kernel
theorem dX10_painted_20 : decode cX10_painted 20 = .ok (.if_icmp .gt 24, 3) := by decide +kernel
theorem dX10_painted_23 : decode cX10_painted 23 = .ok (.aload_n 0, 1) := by decide +kernel
theorem dX10_painted_24 : decode cX10_painted 24 = .ok (.iload_n 3, 1) := by decide +kernel
theorem dX10_painted_25 : decode cX10_painted 25 = .ok (.iload_n 1, 1) := by decide +kernel
theorem dX10_painted_26 : decode cX10_painted 26 = .ok (.invokevirtual 342, 3) := by decide +kernel
theorem dX10_painted_29 : decode cX10_painted 29 = .ok (.ifCond .eq 9, 3) := by decide +kernel
theorem dX10_painted_32 : decode cX10_painted 32 = .ok (.iload_n 2, 1) := by decide +kernel
theorem dX10_painted_33 : decode cX10_painted 33 = .ok (.iconst 1, 1) := by decide +kernel
theorem dX10_painted_34 : decode cX10_painted 34 = .ok (.iload_n 3, 1) := by decide +kernel
theorem dX10_painted_35 : decode cX10_painted 35 = .ok (.ishl, 1) := by decide +kernel
theorem dX10_painted_36 : decode cX10_painted 36 = .ok (.ior, 1) := by decide +kernel
theorem dX10_painted_37 : decode cX10_painted 37 = .ok (.istore_n 2, 1) := by decide +kernel
theorem dX10_painted_38 : decode cX10_painted 38 = .ok (.iinc 3 1, 3) := by decide +kernel
theorem dX10_painted_41 : decode cX10_painted 41 = .ok (.goto (-29), 3) := by decide +kernel
theorem dX10_painted_44 : decode cX10_painted 44 = .ok (.iload_n 2, 1) := by decide +kernel
theorem dX10_painted_45 : decode cX10_painted 45 = .ok (.ireturn, 1) := by decide +kernel
theorem dX10_makesKnownSo_0 : decode cX10_makesKnownSo 0 = .ok (.aload_n 0, 1) := by decide +kernel
theorem dX10_makesKnownSo_1 : decode cX10_makesKnownSo 1 = .ok (.getfield 48, 3) := by decide +kernel
theorem dX10_makesKnownSo_4 : decode cX10_makesKnownSo 4 = .ok (.aload_n 0, 1) := by decide +kernel
theorem dX10_makesKnownSo_5 : decode cX10_makesKnownSo 5 = .ok (.getfield 38, 3) := by decide +kernel
theorem dX10_makesKnownSo_8 : decode cX10_makesKnownSo 8 = .ok (.invokevirtual 119, 3) := by decide +kernel
theorem dX10_makesKnownSo_11 : decode cX10_makesKnownSo 11 = .ok (.aload_n 0, 1) := by decide +kernel
theorem dX10_makesKnownSo_12 : decode cX10_makesKnownSo 12 = .ok (.getfield 48, 3) := by decide +kernel
theorem dX10_makesKnownSo_15 : decode cX10_makesKnownSo 15 = .ok (.iload_n 1, 1) := by decide +kernel
theorem dX10_makesKnownSo_16 : decode cX10_makesKnownSo 16 = .ok (.aload_n 0, 1) := by decide +kernel
theorem dX10_makesKnownSo_17 : decode cX10_makesKnownSo 17 = .ok (.getfield 29, 3) := by decide +kernel
theorem dX10_makesKnownSo_20 : decode cX10_makesKnownSo 20 = .ok (.getfield 341, 3) := by decide +kernel
theorem dX10_makesKnownSo_23 : decode cX10_makesKnownSo 23 = .ok (.invokevirtual 346, 3) := by decide +kernel
theorem dX10_makesKnownSo_26 : decode cX10_makesKnownSo 26 = .ok (.aload_n 0, 1) := by decide +kernel
theorem dX10_makesKnownSo_27 : decode cX10_makesKnownSo 27 = .ok (.getfield 58, 3) := by decide +kernel
theorem dX10_makesKnownSo_30 : decode cX10_makesKnownSo 30 = .ok (.iload_n 2, 1) := by decide +kernel
theorem dX10_makesKnownSo_31 : decode cX10_makesKnownSo 31 = .ok (.invokevirtual 349, 3) := by decide +kernel
theorem dX10_makesKnownSo_34 : decode cX10_makesKnownSo 34 = .ok (.istore_n 3, 1) := by decide +kernel
theorem dX10_makesKnownSo_35 : decode cX10_makesKnownSo 35 = .ok (.iconst 0, 1) := by decide +kernel
theorem dX10_makesKnownSo_36 : decode cX10_makesKnownSo 36 = .ok (.istore 4, 2) := by decide +kernel
theorem dX10_makesKnownSo_38 : decode cX10_makesKnownSo 38 = .ok (.iload 4, 2) := by decide +kernel
theorem dX10_makesKnownSo_40 : decode cX10_makesKnownSo 40 = .ok (.iload_n 3, 1) := by decide +kernel
theorem dX10_makesKnownSo_41 : decode cX10_makesKnownSo 41 = .ok (.if_icmp .gt 37, 3) := by decide +kernel
theorem dX10_makesKnownSo_44 : decode cX10_makesKnownSo 44 = .ok (.aload_n 0, 1) := by decide +kernel
theorem dX10_makesKnownSo_45 : decode cX10_makesKnownSo 45 = .ok (.getfield 58, 3) := by decide +kernel
theorem dX10_makesKnownSo_48 : decode cX10_makesKnownSo 48 = .ok (.aload_n 0, 1) := by decide +kernel
theorem dX10_makesKnownSo_49 : decode cX10_makesKnownSo 49 = .ok (.getfield 48, 3) := by decide +kernel
theorem dX10_makesKnownSo_52 : decode cX10_makesKnownSo 52 = .ok (.iload 4, 2) := by decide +kernel
theorem dX10_makesKnownSo_54 : decode cX10_makesKnownSo 54 = .ok (.iload_n 2, 1) := by decide +kernel
theorem dX10_makesKnownSo_55 : decode cX10_makesKnownSo 55 = .ok (.invokevirtual 352, 3) := by decide +kernel
theorem dX10_makesKnownSo_58 : decode cX10_makesKnownSo 58 = .ok (.ifCond .ne 5, 3) := by decide +kernel
theorem dX10_makesKnownSo_61 : decode cX10_makesKnownSo 61 = .ok (.iconst 0, 1) := by decide +kernel
theorem dX10_makesKnownSo_62 : decode cX10_makesKnownSo 62 = .ok (.ireturn, 1) := by decide +kernel
theorem dX10_makesKnownSo_63 : decode cX10_makesKnownSo 63 = .ok (.aload_n 0, 1) := by decide +kernel
theorem dX10_makesKnownSo_64 : decode cX10_makesKnownSo 64 = .ok (.getfield 48, 3) := by decide +kernel
theorem dX10_makesKnownSo_67 : decode cX10_makesKnownSo 67 = .ok (.iconst (-1), 1) := by decide +kernel
theorem dX10_makesKnownSo_68 : decode cX10_makesKnownSo 68 = .ok (.invokevirtual 276, 3) := by decide +kernel
theorem dX10_makesKnownSo_71 : decode cX10_makesKnownSo 71 = .ok (.pop, 1) := by decide +kernel
theorem dX10_makesKnownSo_72 : decode cX10_makesKnownSo 72 = .ok (.iinc 4 1, 3) := by decide +kernel
theorem dX10_makesKnownSo_75 : decode cX10_makesKnownSo 75 = .ok (.goto (-37), 3) := by decide +kernel
theorem dX10_makesKnownSo_78 : decode cX10_makesKnownSo 78 = .ok (.iconst 1, 1) := by decide +kernel
theorem dX10_makesKnownSo_79 : decode cX10_makesKnownSo 79 = .ok (.ireturn, 1) := by decide +kernel
theorem dX10_tells_0 : decode cX10_tells 0 = .ok (.iload_n 1, 1) := by decide +kernel
theorem dX10_tells_1 : decode cX10_tells 1 = .ok (.ifCond .lt 8, 3) := by decide +kernel
theorem dX10_tells_4 : decode cX10_tells 4 = .ok (.iload_n 1, 1) := by decide +kernel
theorem dX10_tells_5 : decode cX10_tells 5 = .ok (.iconst 1, 1) := by decide +kernel
theorem dX10_tells_6 : decode cX10_tells 6 = .ok (.if_icmp .le 5, 3) := by decide +kernel
theorem dX10_tells_9 : decode cX10_tells 9 = .ok (.iconst (-1), 1) := by decide +kernel
theorem dX10_tells_10 : decode cX10_tells 10 = .ok (.ireturn, 1) := by decide +kernel
theorem dX10_tells_11 : decode cX10_tells 11 = .ok (.aload_n 0, 1) := by decide +kernel
theorem dX10_tells_12 : decode cX10_tells 12 = .ok (.getfield 58, 3) := by decide +kernel
theorem dX10_tells_15 : decode cX10_tells 15 = .ok (.invokevirtual 338, 3) := by decide +kernel
theorem dX10_tells_18 : decode cX10_tells 18 = .ok (.istore_n 2, 1) := by decide +kernel
theorem dX10_tells_19 : decode cX10_tells 19 = .ok (.iconst 0, 1) := by decide +kernel
theorem dX10_tells_20 : decode cX10_tells 20 = .ok (.istore_n 3, 1) := by decide +kernel
theorem dX10_tells_21 : decode cX10_tells 21 = .ok (.iconst 0, 1) := by decide +kernel
theorem dX10_tells_22 : decode cX10_tells 22 = .ok (.istore 4, 2) := by decide +kernel
theorem dX10_tells_24 : decode cX10_tells 24 = .ok (.iload 4, 2) := by decide +kernel
theorem dX10_tells_26 : decode cX10_tells 26 = .ok (.aload_n 0, 1) := by decide +kernel
theorem dX10_tells_27 : decode cX10_tells 27 = .ok (.getfield 29, 3) := by decide +kernel
theorem dX10_tells_30 : decode cX10_tells 30 = .ok (.getfield 341, 3) := by decide +kernel
theorem dX10_tells_33 : decode cX10_tells 33 = .ok (.if_icmp .gt 72, 3) := by decide +kernel
theorem dX10_tells_36 : decode cX10_tells 36 = .ok (.iload 4, 2) := by decide +kernel
theorem dX10_tells_38 : decode cX10_tells 38 = .ok (.aload_n 0, 1) := by decide +kernel
theorem dX10_tells_39 : decode cX10_tells 39 = .ok (.getfield 83, 3) := by decide +kernel
theorem dX10_tells_42 : decode cX10_tells 42 = .ok (.arraylength, 1) := by decide +kernel
theorem dX10_tells_43 : decode cX10_tells 43 = .ok (.if_icmp .ge 62, 3) := by decide +kernel
theorem dX10_tells_46 : decode cX10_tells 46 = .ok (.aload_n 0, 1) := by decide +kernel
theorem dX10_tells_47 : decode cX10_tells 47 = .ok (.iload 4, 2) := by decide +kernel
theorem dX10_tells_49 : decode cX10_tells 49 = .ok (.iload_n 2, 1) := by decide +kernel
theorem dX10_tells_50 : decode cX10_tells 50 = .ok (.invokevirtual 342, 3) := by decide +kernel
theorem dX10_tells_53 : decode cX10_tells 53 = .ok (.ifCond .eq 46, 3) := by decide +kernel
theorem dX10_tells_56 : decode cX10_tells 56 = .ok (.aload_n 0, 1) := by decide +kernel
theorem dX10_tells_57 : decode cX10_tells 57 = .ok (.getfield 48, 3) := by decide +kernel
theorem dX10_tells_60 : decode cX10_tells 60 = .ok (.aload_n 0, 1) := by decide +kernel
theorem dX10_tells_61 : decode cX10_tells 61 = .ok (.getfield 42, 3) := by decide +kernel
theorem dX10_tells_64 : decode cX10_tells 64 = .ok (.invokevirtual 119, 3) := by decide +kernel
theorem dX10_tells_67 : decode cX10_tells 67 = .ok (.aload_n 0, 1) := by decide +kernel
theorem dX10_tells_68 : decode cX10_tells 68 = .ok (.getfield 48, 3) := by decide +kernel
theorem dX10_tells_71 : decode cX10_tells 71 = .ok (.iload 4, 2) := by decide +kernel
theorem dX10_tells_73 : decode cX10_tells 73 = .ok (.aload_n 0, 1) := by decide +kernel
theorem dX10_tells_74 : decode cX10_tells 74 = .ok (.getfield 29, 3) := by decide +kernel
theorem dX10_tells_77 : decode cX10_tells 77 = .ok (.getfield 341, 3) := by decide +kernel
theorem dX10_tells_80 : decode cX10_tells 80 = .ok (.invokevirtual 346, 3) := by decide +kernel
theorem dX10_tells_83 : decode cX10_tells 83 = .ok (.aload_n 0, 1) := by decide +kernel
theorem dX10_tells_84 : decode cX10_tells 84 = .ok (.getfield 83, 3) := by decide +kernel
theorem dX10_tells_87 : decode cX10_tells 87 = .ok (.iload_n 3, 1) := by decide +kernel
theorem dX10_tells_88 : decode cX10_tells 88 = .ok (.aload_n 0, 1) := by decide +kernel
theorem dX10_tells_89 : decode cX10_tells 89 = .ok (.getfield 48, 3) := by decide +kernel
theorem dX10_tells_92 : decode cX10_tells 92 = .ok (.invokevirtual 239, 3) := by decide +kernel
theorem dX10_tells_95 : decode cX10_tells 95 = .ok (.iastore, 1) := by decide +kernel
theorem dX10_tells_96 : decode cX10_tells 96 = .ok (.iinc 3 1, 3) := by decide +kernel
theorem dX10_tells_99 : decode cX10_tells 99 = .ok (.iinc 4 1, 3) := by decide +kernel
theorem dX10_tells_102 : decode cX10_tells 102 = .ok (.goto (-78), 3) := by decide +kernel
theorem dX10_tells_105 : decode cX10_tells 105 = .ok (.iload_n 3, 1) := by decide +kernel
theorem dX10_tells_106 : decode cX10_tells 106 = .ok (.ifCond .ne 8, 3) := by decide +kernel
theorem dX10_tells_109 : decode cX10_tells 109 = .ok (.bipush (-2), 2) := by decide +kernel
theorem dX10_tells_111 : decode cX10_tells 111 = .ok (.goto 9, 3) := by decide +kernel
theorem dX10_tells_114 : decode cX10_tells 114 = .ok (.aload_n 0, 1) := by decide +kernel
theorem dX10_tells_115 : decode cX10_tells 115 = .ok (.iload_n 1, 1) := by decide +kernel
theorem dX10_tells_116 : decode cX10_tells 116 = .ok (.iload_n 3, 1) := by decide +kernel
theorem dX10_tells_117 : decode cX10_tells 117 = .ok (.invokevirtual 355, 3) := by decide +kernel
theorem dX10_tells_120 : decode cX10_tells 120 = .ok (.ireturn, 1) := by decide +kernel
theorem dX10_mostTelling_0 : decode cX10_mostTelling 0 = .ok (.iconst 0, 1) := by decide +kernel
theorem dX10_mostTelling_1 : decode cX10_mostTelling 1 = .ok (.istore_n 3, 1) := by decide +kernel
theorem dX10_mostTelling_2 : decode cX10_mostTelling 2 = .ok (.iconst 0, 1) := by decide +kernel
theorem dX10_mostTelling_3 : decode cX10_mostTelling 3 = .ok (.istore 4, 2) := by decide +kernel
theorem dX10_mostTelling_5 : decode cX10_mostTelling 5 = .ok (.iconst 1, 1) := by decide +kernel
theorem dX10_mostTelling_6 : decode cX10_mostTelling 6 = .ok (.istore 5, 2) := by decide +kernel
theorem dX10_mostTelling_8 : decode cX10_mostTelling 8 = .ok (.iload 5, 2) := by decide +kernel
theorem dX10_mostTelling_10 : decode cX10_mostTelling 10 = .ok (.sipush 200, 3) := by decide +kernel
theorem dX10_mostTelling_13 : decode cX10_mostTelling 13 = .ok (.if_icmp .gt 32, 3) := by decide +kernel
theorem dX10_mostTelling_16 : decode cX10_mostTelling 16 = .ok (.aload_n 0, 1) := by decide +kernel
theorem dX10_mostTelling_17 : decode cX10_mostTelling 17 = .ok (.iload 5, 2) := by decide +kernel
theorem dX10_mostTelling_19 : decode cX10_mostTelling 19 = .ok (.iload_n 2, 1) := by decide +kernel
theorem dX10_mostTelling_20 : decode cX10_mostTelling 20 = .ok (.invokevirtual 358, 3) := by decide +kernel
theorem dX10_mostTelling_23 : decode cX10_mostTelling 23 = .ok (.istore 6, 2) := by decide +kernel
theorem dX10_mostTelling_25 : decode cX10_mostTelling 25 = .ok (.iload 6, 2) := by decide +kernel
theorem dX10_mostTelling_27 : decode cX10_mostTelling 27 = .ok (.iload 4, 2) := by decide +kernel
theorem dX10_mostTelling_29 : decode cX10_mostTelling 29 = .ok (.if_icmp .le 10, 3) := by decide +kernel
theorem dX10_mostTelling_32 : decode cX10_mostTelling 32 = .ok (.iload 6, 2) := by decide +kernel
theorem dX10_mostTelling_34 : decode cX10_mostTelling 34 = .ok (.istore 4, 2) := by decide +kernel
theorem dX10_mostTelling_36 : decode cX10_mostTelling 36 = .ok (.iload 5, 2) := by decide +kernel
theorem dX10_mostTelling_38 : decode cX10_mostTelling 38 = .ok (.istore_n 3, 1) := by decide +kernel
theorem dX10_mostTelling_39 : decode cX10_mostTelling 39 = .ok (.iinc 5 1, 3) := by decide +kernel
theorem dX10_mostTelling_42 : decode cX10_mostTelling 42 = .ok (.goto (-34), 3) := by decide +kernel
theorem dX10_mostTelling_45 : decode cX10_mostTelling 45 = .ok (.iload_n 1, 1) := by decide +kernel
theorem dX10_mostTelling_46 : decode cX10_mostTelling 46 = .ok (.ifCond .ne 7, 3) := by decide +kernel
theorem dX10_mostTelling_49 : decode cX10_mostTelling 49 = .ok (.iload_n 3, 1) := by decide +kernel
theorem dX10_mostTelling_50 : decode cX10_mostTelling 50 = .ok (.goto 5, 3) := by decide +kernel
theorem dX10_mostTelling_53 : decode cX10_mostTelling 53 = .ok (.iload 4, 2) := by decide +kernel
theorem dX10_mostTelling_55 : decode cX10_mostTelling 55 = .ok (.ireturn, 1) := by decide +kernel
theorem dX10_waysOf_0 : decode cX10_waysOf 0 = .ok (.iconst 0, 1) := by decide +kernel
theorem dX10_waysOf_1 : decode cX10_waysOf 1 = .ok (.istore_n 3, 1) := by decide +kernel
theorem dX10_waysOf_2 : decode cX10_waysOf 2 = .ok (.iconst 0, 1) := by decide +kernel
theorem dX10_waysOf_3 : decode cX10_waysOf 3 = .ok (.istore 4, 2) := by decide +kernel
theorem dX10_waysOf_5 : decode cX10_waysOf 5 = .ok (.iload 4, 2) := by decide +kernel
theorem dX10_waysOf_7 : decode cX10_waysOf 7 = .ok (.iload_n 2, 1) := by decide +kernel
theorem dX10_waysOf_8 : decode cX10_waysOf 8 = .ok (.if_icmp .ge 74, 3) := by decide +kernel
theorem dX10_waysOf_11 : decode cX10_waysOf 11 = .ok (.iload 4, 2) := by decide +kernel
theorem dX10_waysOf_13 : decode cX10_waysOf 13 = .ok (.aload_n 0, 1) := by decide +kernel
theorem dX10_waysOf_14 : decode cX10_waysOf 14 = .ok (.getfield 83, 3) := by decide +kernel
theorem dX10_waysOf_17 : decode cX10_waysOf 17 = .ok (.arraylength, 1) := by decide +kernel
theorem dX10_waysOf_18 : decode cX10_waysOf 18 = .ok (.if_icmp .ge 64, 3) := by decide +kernel
theorem dX10_waysOf_21 : decode cX10_waysOf 21 = .ok (.iconst 1, 1) := by decide +kernel
theorem dX10_waysOf_22 : decode cX10_waysOf 22 = .ok (.istore 5, 2) := by decide +kernel
theorem dX10_waysOf_24 : decode cX10_waysOf 24 = .ok (.iconst 0, 1) := by decide +kernel
theorem dX10_waysOf_25 : decode cX10_waysOf 25 = .ok (.istore 6, 2) := by decide +kernel
theorem dX10_waysOf_27 : decode cX10_waysOf 27 = .ok (.iload 6, 2) := by decide +kernel
theorem dX10_waysOf_29 : decode cX10_waysOf 29 = .ok (.iload 4, 2) := by decide +kernel
theorem dX10_waysOf_31 : decode cX10_waysOf 31 = .ok (.if_icmp .ge 37, 3) := by decide +kernel
theorem dX10_waysOf_34 : decode cX10_waysOf 34 = .ok (.iload_n 1, 1) := by decide +kernel
theorem dX10_waysOf_35 : decode cX10_waysOf 35 = .ok (.aload_n 0, 1) := by decide +kernel
theorem dX10_waysOf_36 : decode cX10_waysOf 36 = .ok (.getfield 83, 3) := by decide +kernel
theorem dX10_waysOf_39 : decode cX10_waysOf 39 = .ok (.iload 4, 2) := by decide +kernel
theorem dX10_waysOf_41 : decode cX10_waysOf 41 = .ok (.iaload, 1) := by decide +kernel
theorem dX10_waysOf_42 : decode cX10_waysOf 42 = .ok (.invokestatic 243, 3) := by decide +kernel
theorem dX10_waysOf_45 : decode cX10_waysOf 45 = .ok (.iload_n 1, 1) := by decide +kernel
theorem dX10_waysOf_46 : decode cX10_waysOf 46 = .ok (.aload_n 0, 1) := by decide +kernel
theorem dX10_waysOf_47 : decode cX10_waysOf 47 = .ok (.getfield 83, 3) := by decide +kernel
theorem dX10_waysOf_50 : decode cX10_waysOf 50 = .ok (.iload 6, 2) := by decide +kernel
theorem dX10_waysOf_52 : decode cX10_waysOf 52 = .ok (.iaload, 1) := by decide +kernel
theorem dX10_waysOf_53 : decode cX10_waysOf 53 = .ok (.invokestatic 243, 3) := by decide +kernel
theorem dX10_waysOf_56 : decode cX10_waysOf 56 = .ok (.if_icmp .ne 6, 3) := by decide +kernel
theorem dX10_waysOf_59 : decode cX10_waysOf 59 = .ok (.iconst 0, 1) := by decide +kernel
theorem dX10_waysOf_60 : decode cX10_waysOf 60 = .ok (.istore 5, 2) := by decide +kernel
theorem dX10_waysOf_62 : decode cX10_waysOf 62 = .ok (.iinc 6 1, 3) := by decide +kernel
theorem dX10_waysOf_65 : decode cX10_waysOf 65 = .ok (.goto (-38), 3) := by decide +kernel
theorem dX10_waysOf_68 : decode cX10_waysOf 68 = .ok (.iload 5, 2) := by decide +kernel
theorem dX10_waysOf_70 : decode cX10_waysOf 70 = .ok (.ifCond .eq 6, 3) := by decide +kernel
theorem dX10_waysOf_73 : decode cX10_waysOf 73 = .ok (.iinc 3 1, 3) := by decide +kernel
theorem dX10_waysOf_76 : decode cX10_waysOf 76 = .ok (.iinc 4 1, 3) := by decide +kernel
theorem dX10_waysOf_79 : decode cX10_waysOf 79 = .ok (.goto (-74), 3) := by decide +kernel
theorem dX10_waysOf_82 : decode cX10_waysOf 82 = .ok (.iload_n 3, 1) := by decide +kernel
theorem dX10_waysOf_83 : decode cX10_waysOf 83 = .ok (.ireturn, 1) := by decide +kernel
theorem dX10_rests_0 : decode cX10_rests 0 = .ok (.iload_n 1, 1) := by decide +kernel
theorem dX10_rests_1 : decode cX10_rests 1 = .ok (.ifCond .lt 10, 3) := by decide +kernel
theorem dX10_rests_4 : decode cX10_rests 4 = .ok (.iload_n 1, 1) := by decide +kernel
theorem dX10_rests_5 : decode cX10_rests 5 = .ok (.sipush 9999, 3) := by decide +kernel
theorem dX10_rests_8 : decode cX10_rests 8 = .ok (.if_icmp .le 5, 3) := by decide +kernel
theorem dX10_rests_11 : decode cX10_rests 11 = .ok (.iconst (-1), 1) := by decide +kernel
theorem dX10_rests_12 : decode cX10_rests 12 = .ok (.ireturn, 1) := by decide +kernel
theorem dX10_rests_13 : decode cX10_rests 13 = .ok (.aload_n 0, 1) := by decide +kernel
theorem dX10_rests_14 : decode cX10_rests 14 = .ok (.iload_n 1, 1) := by decide +kernel
theorem dX10_rests_15 : decode cX10_rests 15 = .ok (.invokevirtual 361, 3) := by decide +kernel
theorem dX10_rests_18 : decode cX10_rests 18 = .ok (.invokestatic 282, 3) := by decide +kernel
theorem dX10_rests_21 : decode cX10_rests 21 = .ok (.ireturn, 1) := by decide +kernel
theorem dX10_rest_0 : decode cX10_rest 0 = .ok (.iload_n 1, 1) := by decide +kernel
theorem dX10_rest_1 : decode cX10_rest 1 = .ok (.ifCond .lt 14, 3) := by decide +kernel
theorem dX10_rest_4 : decode cX10_rest 4 = .ok (.iload_n 1, 1) := by decide +kernel
theorem dX10_rest_5 : decode cX10_rest 5 = .ok (.sipush 9999, 3) := by decide +kernel
theorem dX10_rest_8 : decode cX10_rest 8 = .ok (.if_icmp .gt 7, 3) := by decide +kernel
theorem dX10_rest_11 : decode cX10_rest 11 = .ok (.iload_n 2, 1) := by decide +kernel
theorem dX10_rest_12 : decode cX10_rest 12 = .ok (.ifCond .ge 5, 3) := by decide +kernel
theorem dX10_rest_15 : decode cX10_rest 15 = .ok (.iconst (-1), 1) := by decide +kernel
theorem dX10_rest_16 : decode cX10_rest 16 = .ok (.ireturn, 1) := by decide +kernel
theorem dX10_rest_17 : decode cX10_rest 17 = .ok (.aload_n 0, 1) := by decide +kernel
theorem dX10_rest_18 : decode cX10_rest 18 = .ok (.iload_n 1, 1) := by decide +kernel
theorem dX10_rest_19 : decode cX10_rest 19 = .ok (.invokevirtual 361, 3) := by decide +kernel
theorem dX10_rest_22 : decode cX10_rest 22 = .ok (.istore_n 3, 1) := by decide +kernel
theorem dX10_rest_23 : decode cX10_rest 23 = .ok (.iconst 0, 1) := by decide +kernel
theorem dX10_rest_24 : decode cX10_rest 24 = .ok (.istore 4, 2) := by decide +kernel
theorem dX10_rest_26 : decode cX10_rest 26 = .ok (.iconst 0, 1) := by decide +kernel
theorem dX10_rest_27 : decode cX10_rest 27 = .ok (.istore 5, 2) := by decide +kernel
theorem dX10_rest_29 : decode cX10_rest 29 = .ok (.iload 5, 2) := by decide +kernel
theorem dX10_rest_31 : decode cX10_rest 31 = .ok (.iconst 4, 1) := by decide +kernel
theorem dX10_rest_32 : decode cX10_rest 32 = .ok (.if_icmp .ge 41, 3) := by decide +kernel
theorem dX10_rest_35 : decode cX10_rest 35 = .ok (.iload_n 3, 1) := by decide +kernel
theorem dX10_rest_36 : decode cX10_rest 36 = .ok (.iload 5, 2) := by decide +kernel
theorem dX10_rest_38 : decode cX10_rest 38 = .ok (.ishr, 1) := by decide +kernel
theorem dX10_rest_39 : decode cX10_rest 39 = .ok (.iconst 1, 1) := by decide +kernel
theorem dX10_rest_40 : decode cX10_rest 40 = .ok (.iand, 1) := by decide +kernel
theorem dX10_rest_41 : decode cX10_rest 41 = .ok (.iconst 1, 1) := by decide +kernel
theorem dX10_rest_42 : decode cX10_rest 42 = .ok (.if_icmp .ne 25, 3) := by decide +kernel
theorem dX10_rest_45 : decode cX10_rest 45 = .ok (.iload 4, 2) := by decide +kernel
theorem dX10_rest_47 : decode cX10_rest 47 = .ok (.iload_n 2, 1) := by decide +kernel
theorem dX10_rest_48 : decode cX10_rest 48 = .ok (.if_icmp .ne 16, 3) := by decide +kernel
theorem dX10_rest_51 : decode cX10_rest 51 = .ok (.iload 5, 2) := by decide +kernel
theorem dX10_rest_53 : decode cX10_rest 53 = .ok (.iconst 2, 1) := by decide +kernel
theorem dX10_rest_54 : decode cX10_rest 54 = .ok (.idiv, 1) := by decide +kernel
theorem dX10_rest_55 : decode cX10_rest 55 = .ok (.bipush 10, 2) := by decide +kernel
theorem dX10_rest_57 : decode cX10_rest 57 = .ok (.imul, 1) := by decide +kernel
theorem dX10_rest_58 : decode cX10_rest 58 = .ok (.iload 5, 2) := by decide +kernel
theorem dX10_rest_60 : decode cX10_rest 60 = .ok (.iconst 2, 1) := by decide +kernel
theorem dX10_rest_61 : decode cX10_rest 61 = .ok (.irem, 1) := by decide +kernel
theorem dX10_rest_62 : decode cX10_rest 62 = .ok (.iadd, 1) := by decide +kernel
theorem dX10_rest_63 : decode cX10_rest 63 = .ok (.ireturn, 1) := by decide +kernel
theorem dX10_rest_64 : decode cX10_rest 64 = .ok (.iinc 4 1, 3) := by decide +kernel
theorem dX10_rest_67 : decode cX10_rest 67 = .ok (.iinc 5 1, 3) := by decide +kernel
theorem dX10_rest_70 : decode cX10_rest 70 = .ok (.goto (-41), 3) := by decide +kernel
theorem dX10_rest_73 : decode cX10_rest 73 = .ok (.bipush (-2), 2) := by decide +kernel
theorem dX10_rest_75 : decode cX10_rest 75 = .ok (.ireturn, 1) := by decide +kernel
theorem dX10_restBits_0 : decode cX10_restBits 0 = .ok (.aload_n 0, 1) := by decide +kernel
theorem dX10_restBits_1 : decode cX10_restBits 1 = .ok (.getfield 65, 3) := by decide +kernel
theorem dX10_restBits_4 : decode cX10_restBits 4 = .ok (.aload_n 0, 1) := by decide +kernel
theorem dX10_restBits_5 : decode cX10_restBits 5 = .ok (.getfield 42, 3) := by decide +kernel
theorem dX10_restBits_8 : decode cX10_restBits 8 = .ok (.invokevirtual 294, 3) := by decide +kernel
theorem dX10_restBits_11 : decode cX10_restBits 11 = .ok (.iconst 0, 1) := by decide +kernel
theorem dX10_restBits_12 : decode cX10_restBits 12 = .ok (.istore_n 2, 1) := by decide +kernel
theorem dX10_restBits_13 : decode cX10_restBits 13 = .ok (.iconst 0, 1) := by decide +kernel
theorem dX10_restBits_14 : decode cX10_restBits 14 = .ok (.istore_n 3, 1) := by decide +kernel
theorem dX10_restBits_15 : decode cX10_restBits 15 = .ok (.iload_n 3, 1) := by decide +kernel
theorem dX10_restBits_16 : decode cX10_restBits 16 = .ok (.iconst 4, 1) := by decide +kernel
theorem dX10_restBits_17 : decode cX10_restBits 17 = .ok (.if_icmp .ge 77, 3) := by decide +kernel
theorem dX10_restBits_20 : decode cX10_restBits 20 = .ok (.aload_n 0, 1) := by decide +kernel
theorem dX10_restBits_21 : decode cX10_restBits 21 = .ok (.iconst 0, 1) := by decide +kernel
theorem dX10_restBits_22 : decode cX10_restBits 22 = .ok (.iload_n 3, 1) := by decide +kernel
theorem dX10_restBits_23 : decode cX10_restBits 23 = .ok (.iload_n 1, 1) := by decide +kernel
theorem dX10_restBits_24 : decode cX10_restBits 24 = .ok (.invokevirtual 364, 3) := by decide +kernel
theorem dX10_restBits_27 : decode cX10_restBits 27 = .ok (.aload_n 0, 1) := by decide +kernel
theorem dX10_restBits_28 : decode cX10_restBits 28 = .ok (.iconst 0, 1) := by decide +kernel
theorem dX10_restBits_29 : decode cX10_restBits 29 = .ok (.iload_n 3, 1) := by decide +kernel
theorem dX10_restBits_30 : decode cX10_restBits 30 = .ok (.iconst 2, 1) := by decide +kernel
theorem dX10_restBits_31 : decode cX10_restBits 31 = .ok (.ixor, 1) := by decide +kernel
theorem dX10_restBits_32 : decode cX10_restBits 32 = .ok (.iload_n 1, 1) := by decide +kernel
theorem dX10_restBits_33 : decode cX10_restBits 33 = .ok (.invokevirtual 364, 3) := by decide +kernel
theorem dX10_restBits_36 : decode cX10_restBits 36 = .ok (.if_icmp .lt 7, 3) := by decide +kernel
theorem dX10_restBits_39 : decode cX10_restBits 39 = .ok (.iconst 1, 1) := by decide +kernel
theorem dX10_restBits_40 : decode cX10_restBits 40 = .ok (.goto 4, 3) := by decide +kernel
theorem dX10_restBits_43 : decode cX10_restBits 43 = .ok (.iconst 0, 1) := by decide +kernel
theorem dX10_restBits_44 : decode cX10_restBits 44 = .ok (.istore 4, 2) := by decide +kernel
theorem dX10_restBits_46 : decode cX10_restBits 46 = .ok (.aload_n 0, 1) := by decide +kernel
theorem dX10_restBits_47 : decode cX10_restBits 47 = .ok (.iconst 1, 1) := by decide +kernel
theorem dX10_restBits_48 : decode cX10_restBits 48 = .ok (.iload_n 3, 1) := by decide +kernel
theorem dX10_restBits_49 : decode cX10_restBits 49 = .ok (.iload_n 1, 1) := by decide +kernel
theorem dX10_restBits_50 : decode cX10_restBits 50 = .ok (.invokevirtual 364, 3) := by decide +kernel
theorem dX10_restBits_53 : decode cX10_restBits 53 = .ok (.aload_n 0, 1) := by decide +kernel
theorem dX10_restBits_54 : decode cX10_restBits 54 = .ok (.iconst 1, 1) := by decide +kernel
theorem dX10_restBits_55 : decode cX10_restBits 55 = .ok (.iload_n 3, 1) := by decide +kernel
theorem dX10_restBits_56 : decode cX10_restBits 56 = .ok (.iconst 1, 1) := by decide +kernel
theorem dX10_restBits_57 : decode cX10_restBits 57 = .ok (.ixor, 1) := by decide +kernel
theorem dX10_restBits_58 : decode cX10_restBits 58 = .ok (.iload_n 1, 1) := by decide +kernel
theorem dX10_restBits_59 : decode cX10_restBits 59 = .ok (.invokevirtual 364, 3) := by decide +kernel
theorem dX10_restBits_62 : decode cX10_restBits 62 = .ok (.if_icmp .lt 7, 3) := by decide +kernel
theorem dX10_restBits_65 : decode cX10_restBits 65 = .ok (.iconst 1, 1) := by decide +kernel
theorem dX10_restBits_66 : decode cX10_restBits 66 = .ok (.goto 4, 3) := by decide +kernel
theorem dX10_restBits_69 : decode cX10_restBits 69 = .ok (.iconst 0, 1) := by decide +kernel
theorem dX10_restBits_70 : decode cX10_restBits 70 = .ok (.istore 5, 2) := by decide +kernel
theorem dX10_restBits_72 : decode cX10_restBits 72 = .ok (.iload 4, 2) := by decide +kernel
theorem dX10_restBits_74 : decode cX10_restBits 74 = .ok (.ifCond .eq 14, 3) := by decide +kernel
theorem dX10_restBits_77 : decode cX10_restBits 77 = .ok (.iload 5, 2) := by decide +kernel
theorem dX10_restBits_79 : decode cX10_restBits 79 = .ok (.ifCond .eq 9, 3) := by decide +kernel
theorem dX10_restBits_82 : decode cX10_restBits 82 = .ok (.iload_n 2, 1) := by decide +kernel
theorem dX10_restBits_83 : decode cX10_restBits 83 = .ok (.iconst 1, 1) := by decide +kernel
theorem dX10_restBits_84 : decode cX10_restBits 84 = .ok (.iload_n 3, 1) := by decide +kernel
theorem dX10_restBits_85 : decode cX10_restBits 85 = .ok (.ishl, 1) := by decide +kernel
theorem dX10_restBits_86 : decode cX10_restBits 86 = .ok (.ior, 1) := by decide +kernel
theorem dX10_restBits_87 : decode cX10_restBits 87 = .ok (.istore_n 2, 1) := by decide +kernel
theorem dX10_restBits_88 : decode cX10_restBits 88 = .ok (.iinc 3 1, 3) := by decide +kernel
theorem dX10_restBits_91 : decode cX10_restBits 91 = .ok (.goto (-76), 3) := by decide +kernel
theorem dX10_restBits_94 : decode cX10_restBits 94 = .ok (.iload_n 2, 1) := by decide +kernel
theorem dX10_restBits_95 : decode cX10_restBits 95 = .ok (.ireturn, 1) := by decide +kernel
theorem dX10_gains_0 : decode cX10_gains 0 = .ok (.iload_n 2, 1) := by decide +kernel
theorem dX10_gains_1 : decode cX10_gains 1 = .ok (.iconst 2, 1) := by decide +kernel
theorem dX10_gains_2 : decode cX10_gains 2 = .ok (.idiv, 1) := by decide +kernel
theorem dX10_gains_3 : decode cX10_gains 3 = .ok (.iconst 1, 1) := by decide +kernel
theorem dX10_gains_4 : decode cX10_gains 4 = .ok (.if_icmp .ne 7, 3) := by decide +kernel
theorem dX10_gains_7 : decode cX10_gains 7 = .ok (.iconst 1, 1) := by decide +kernel
theorem dX10_gains_8 : decode cX10_gains 8 = .ok (.goto 4, 3) := by decide +kernel
theorem dX10_gains_11 : decode cX10_gains 11 = .ok (.iconst 0, 1) := by decide +kernel
theorem dX10_gains_12 : decode cX10_gains 12 = .ok (.istore 4, 2) := by decide +kernel
theorem dX10_gains_14 : decode cX10_gains 14 = .ok (.iload_n 2, 1) := by decide +kernel
theorem dX10_gains_15 : decode cX10_gains 15 = .ok (.iconst 2, 1) := by decide +kernel
theorem dX10_gains_16 : decode cX10_gains 16 = .ok (.irem, 1) := by decide +kernel
theorem dX10_gains_17 : decode cX10_gains 17 = .ok (.iconst 1, 1) := by decide +kernel
theorem dX10_gains_18 : decode cX10_gains 18 = .ok (.if_icmp .ne 7, 3) := by decide +kernel
theorem dX10_gains_21 : decode cX10_gains 21 = .ok (.iconst 1, 1) := by decide +kernel
theorem dX10_gains_22 : decode cX10_gains 22 = .ok (.goto 4, 3) := by decide +kernel
theorem dX10_gains_25 : decode cX10_gains 25 = .ok (.iconst 0, 1) := by decide +kernel
theorem dX10_gains_26 : decode cX10_gains 26 = .ok (.istore 5, 2) := by decide +kernel
theorem dX10_gains_28 : decode cX10_gains 28 = .ok (.iload 4, 2) := by decide +kernel
theorem dX10_gains_30 : decode cX10_gains 30 = .ok (.ifCond .eq 14, 3) := by decide +kernel
theorem dX10_gains_33 : decode cX10_gains 33 = .ok (.aload_n 0, 1) := by decide +kernel
theorem dX10_gains_34 : decode cX10_gains 34 = .ok (.getfield 42, 3) := by decide +kernel
theorem dX10_gains_37 : decode cX10_gains 37 = .ok (.iconst 0, 1) := by decide +kernel
theorem dX10_gains_38 : decode cX10_gains 38 = .ok (.invokevirtual 368, 3) := by decide +kernel
theorem dX10_gains_41 : decode cX10_gains 41 = .ok (.goto 4, 3) := by decide +kernel
theorem dX10_gains_44 : decode cX10_gains 44 = .ok (.iconst 0, 1) := by decide +kernel
theorem dX10_gains_45 : decode cX10_gains 45 = .ok (.iload 5, 2) := by decide +kernel
theorem dX10_gains_47 : decode cX10_gains 47 = .ok (.ifCond .eq 14, 3) := by decide +kernel
theorem dX10_gains_50 : decode cX10_gains 50 = .ok (.aload_n 0, 1) := by decide +kernel
theorem dX10_gains_51 : decode cX10_gains 51 = .ok (.getfield 42, 3) := by decide +kernel
theorem dX10_gains_54 : decode cX10_gains 54 = .ok (.iconst 1, 1) := by decide +kernel
theorem dX10_gains_55 : decode cX10_gains 55 = .ok (.invokevirtual 368, 3) := by decide +kernel
theorem dX10_gains_58 : decode cX10_gains 58 = .ok (.goto 4, 3) := by decide +kernel
theorem dX10_gains_61 : decode cX10_gains 61 = .ok (.iconst 0, 1) := by decide +kernel
theorem dX10_gains_62 : decode cX10_gains 62 = .ok (.ior, 1) := by decide +kernel
theorem dX10_gains_63 : decode cX10_gains 63 = .ok (.istore 6, 2) := by decide +kernel
theorem dX10_gains_65 : decode cX10_gains 65 = .ok (.aload_n 0, 1) := by decide +kernel
theorem dX10_gains_66 : decode cX10_gains 66 = .ok (.getfield 65, 3) := by decide +kernel
theorem dX10_gains_69 : decode cX10_gains 69 = .ok (.aload_n 0, 1) := by decide +kernel
theorem dX10_gains_70 : decode cX10_gains 70 = .ok (.getfield 42, 3) := by decide +kernel
theorem dX10_gains_73 : decode cX10_gains 73 = .ok (.iload 6, 2) := by decide +kernel
theorem dX10_gains_75 : decode cX10_gains 75 = .ok (.invokevirtual 297, 3) := by decide +kernel
theorem dX10_gains_78 : decode cX10_gains 78 = .ok (.iconst 1, 1) := by decide +kernel
theorem dX10_gains_79 : decode cX10_gains 79 = .ok (.if_icmp .lt 7, 3) := by decide +kernel
theorem dX10_gains_82 : decode cX10_gains 82 = .ok (.iload_n 3, 1) := by decide +kernel
theorem dX10_gains_83 : decode cX10_gains 83 = .ok (.goto 4, 3) := by decide +kernel
theorem dX10_gains_86 : decode cX10_gains 86 = .ok (.iconst 0, 1) := by decide +kernel
theorem dX10_gains_87 : decode cX10_gains 87 = .ok (.istore 7, 2) := by decide +kernel
theorem dX10_gains_89 : decode cX10_gains 89 = .ok (.iload_n 1, 1) := by decide +kernel
theorem dX10_gains_90 : decode cX10_gains 90 = .ok (.ifCond .ne 8, 3) := by decide +kernel
theorem dX10_gains_93 : decode cX10_gains 93 = .ok (.iload 4, 2) := by decide +kernel
theorem dX10_gains_95 : decode cX10_gains 95 = .ok (.goto 5, 3) := by decide +kernel
theorem dX10_gains_98 : decode cX10_gains 98 = .ok (.iload 5, 2) := by decide +kernel
theorem dX10_gains_100 : decode cX10_gains 100 = .ok (.istore 8, 2) := by decide +kernel
theorem dX10_gains_102 : decode cX10_gains 102 = .ok (.iload 8, 2) := by decide +kernel
theorem dX10_gains_104 : decode cX10_gains 104 = .ok (.ifCond .eq 24, 3) := by decide +kernel
theorem dX10_gains_107 : decode cX10_gains 107 = .ok (.iload 7, 2) := by decide +kernel
theorem dX10_gains_109 : decode cX10_gains 109 = .ok (.aload_n 0, 1) := by decide +kernel
theorem dX10_gains_110 : decode cX10_gains 110 = .ok (.getfield 42, 3) := by decide +kernel
theorem dX10_gains_113 : decode cX10_gains 113 = .ok (.aload_n 0, 1) := by decide +kernel
theorem dX10_gains_114 : decode cX10_gains 114 = .ok (.getfield 42, 3) := by decide +kernel
theorem dX10_gains_117 : decode cX10_gains 117 = .ok (.iload_n 1, 1) := by decide +kernel
theorem dX10_gains_118 : decode cX10_gains 118 = .ok (.invokevirtual 368, 3) := by decide +kernel
theorem dX10_gains_121 : decode cX10_gains 121 = .ok (.invokevirtual 371, 3) := by decide +kernel
theorem dX10_gains_124 : decode cX10_gains 124 = .ok (.iadd, 1) := by decide +kernel
theorem dX10_gains_125 : decode cX10_gains 125 = .ok (.goto 5, 3) := by decide +kernel
theorem dX10_gains_128 : decode cX10_gains 128 = .ok (.iload 7, 2) := by decide +kernel
theorem dX10_gains_130 : decode cX10_gains 130 = .ok (.ireturn, 1) := by decide +kernel
theorem dX10_chance_0 : decode cX10_chance 0 = .ok (.iload_n 1, 1) := by decide +kernel
theorem dX10_chance_1 : decode cX10_chance 1 = .ok (.ifCond .lt 25, 3) := by decide +kernel
theorem dX10_chance_4 : decode cX10_chance 4 = .ok (.iload_n 2, 1) := by decide +kernel
theorem dX10_chance_5 : decode cX10_chance 5 = .ok (.iconst 1, 1) := by decide +kernel
theorem dX10_chance_6 : decode cX10_chance 6 = .ok (.if_icmp .lt 20, 3) := by decide +kernel
theorem dX10_chance_9 : decode cX10_chance 9 = .ok (.iload_n 2, 1) := by decide +kernel
theorem dX10_chance_10 : decode cX10_chance 10 = .ok (.bipush 30, 2) := by decide +kernel
theorem dX10_chance_12 : decode cX10_chance 12 = .ok (.if_icmp .gt 14, 3) := by decide +kernel
theorem dX10_chance_15 : decode cX10_chance 15 = .ok (.iload_n 3, 1) := by decide +kernel
theorem dX10_chance_16 : decode cX10_chance 16 = .ok (.ifCond .lt 10, 3) := by decide +kernel
theorem dX10_chance_19 : decode cX10_chance 19 = .ok (.iload_n 3, 1) := by decide +kernel
theorem dX10_chance_20 : decode cX10_chance 20 = .ok (.sipush 9999, 3) := by decide +kernel
theorem dX10_chance_23 : decode cX10_chance 23 = .ok (.if_icmp .le 5, 3) := by decide +kernel
theorem dX10_chance_26 : decode cX10_chance 26 = .ok (.iconst (-1), 1) := by decide +kernel
theorem dX10_chance_27 : decode cX10_chance 27 = .ok (.ireturn, 1) := by decide +kernel
theorem dX10_chance_28 : decode cX10_chance 28 = .ok (.iload_n 1, 1) := by decide +kernel
theorem dX10_chance_29 : decode cX10_chance 29 = .ok (.i2l, 1) := by decide +kernel
theorem dX10_chance_30 : decode cX10_chance 30 = .ok (.lstore 4, 2) := by decide +kernel
theorem dX10_chance_32 : decode cX10_chance 32 = .ok (.iconst 0, 1) := by decide +kernel
theorem dX10_chance_33 : decode cX10_chance 33 = .ok (.istore 6, 2) := by decide +kernel
theorem dX10_chance_35 : decode cX10_chance 35 = .ok (.iconst 0, 1) := by decide +kernel
theorem dX10_chance_36 : decode cX10_chance 36 = .ok (.istore 7, 2) := by decide +kernel
theorem dX10_chance_38 : decode cX10_chance 38 = .ok (.iload 7, 2) := by decide +kernel
theorem dX10_chance_40 : decode cX10_chance 40 = .ok (.bipush 10, 2) := by decide +kernel
theorem dX10_chance_42 : decode cX10_chance 42 = .ok (.if_icmp .ge 66, 3) := by decide +kernel
theorem dX10_chance_45 : decode cX10_chance 45 = .ok (.aload_n 0, 1) := by decide +kernel
theorem dX10_chance_46 : decode cX10_chance 46 = .ok (.getfield 48, 3) := by decide +kernel
theorem dX10_chance_49 : decode cX10_chance 49 = .ok (.aload_n 0, 1) := by decide +kernel
theorem dX10_chance_50 : decode cX10_chance 50 = .ok (.getfield 42, 3) := by decide +kernel
theorem dX10_chance_53 : decode cX10_chance 53 = .ok (.invokevirtual 119, 3) := by decide +kernel
theorem dX10_chance_56 : decode cX10_chance 56 = .ok (.iconst 0, 1) := by decide +kernel
theorem dX10_chance_57 : decode cX10_chance 57 = .ok (.istore 8, 2) := by decide +kernel
theorem dX10_chance_59 : decode cX10_chance 59 = .ok (.iload 8, 2) := by decide +kernel
theorem dX10_chance_61 : decode cX10_chance 61 = .ok (.iload_n 2, 1) := by decide +kernel
theorem dX10_chance_62 : decode cX10_chance 62 = .ok (.if_icmp .ge 26, 3) := by decide +kernel
theorem dX10_chance_65 : decode cX10_chance 65 = .ok (.aload_n 0, 1) := by decide +kernel
theorem dX10_chance_66 : decode cX10_chance 66 = .ok (.lload 4, 2) := by decide +kernel
theorem dX10_chance_68 : decode cX10_chance 68 = .ok (.invokevirtual 374, 3) := by decide +kernel
theorem dX10_chance_71 : decode cX10_chance 71 = .ok (.lstore 4, 2) := by decide +kernel
theorem dX10_chance_73 : decode cX10_chance 73 = .ok (.aload_n 0, 1) := by decide +kernel
theorem dX10_chance_74 : decode cX10_chance 74 = .ok (.getfield 48, 3) := by decide +kernel
theorem dX10_chance_77 : decode cX10_chance 77 = .ok (.iconst (-1), 1) := by decide +kernel
theorem dX10_chance_78 : decode cX10_chance 78 = .ok (.invokevirtual 276, 3) := by decide +kernel
theorem dX10_chance_81 : decode cX10_chance 81 = .ok (.pop, 1) := by decide +kernel
theorem dX10_chance_82 : decode cX10_chance 82 = .ok (.iinc 8 1, 3) := by decide +kernel
theorem dX10_chance_85 : decode cX10_chance 85 = .ok (.goto (-26), 3) := by decide +kernel
theorem dX10_chance_88 : decode cX10_chance 88 = .ok (.aload_n 0, 1) := by decide +kernel
theorem dX10_chance_89 : decode cX10_chance 89 = .ok (.getfield 48, 3) := by decide +kernel
theorem dX10_chance_92 : decode cX10_chance 92 = .ok (.invokevirtual 239, 3) := by decide +kernel
theorem dX10_chance_95 : decode cX10_chance 95 = .ok (.iload_n 3, 1) := by decide +kernel
theorem dX10_chance_96 : decode cX10_chance 96 = .ok (.if_icmp .lt 6, 3) := by decide +kernel
theorem dX10_chance_99 : decode cX10_chance 99 = .ok (.iinc 6 1, 3) := by decide +kernel
theorem dX10_chance_102 : decode cX10_chance 102 = .ok (.iinc 7 1, 3) := by decide +kernel
theorem dX10_chance_105 : decode cX10_chance 105 = .ok (.goto (-67), 3) := by decide +kernel
theorem dX10_chance_108 : decode cX10_chance 108 = .ok (.iload 6, 2) := by decide +kernel
theorem dX10_chance_110 : decode cX10_chance 110 = .ok (.ireturn, 1) := by decide +kernel
theorem dX10_befall_0 : decode cX10_befall 0 = .ok (.lload_n 1, 1) := by decide +kernel
theorem dX10_befall_1 : decode cX10_befall 1 = .ok (.invokestatic 378, 3) := by decide +kernel
theorem dX10_befall_4 : decode cX10_befall 4 = .ok (.lstore_n 3, 1) := by decide +kernel
theorem dX10_befall_5 : decode cX10_befall 5 = .ok (.lload_n 3, 1) := by decide +kernel
theorem dX10_befall_6 : decode cX10_befall 6 = .ok (.ldc2_w 381, 3) := by decide +kernel
theorem dX10_befall_9 : decode cX10_befall 9 = .ok (.ldiv, 1) := by decide +kernel
theorem dX10_befall_10 : decode cX10_befall 10 = .ok (.ldc2_w 383, 3) := by decide +kernel
theorem dX10_befall_13 : decode cX10_befall 13 = .ok (.lrem, 1) := by decide +kernel
theorem dX10_befall_14 : decode cX10_befall 14 = .ok (.l2i, 1) := by decide +kernel
theorem dX10_befall_15 : decode cX10_befall 15 = .ok (.istore 5, 2) := by decide +kernel
theorem dX10_befall_17 : decode cX10_befall 17 = .ok (.iload 5, 2) := by decide +kernel
theorem dX10_befall_19 : decode cX10_befall 19 = .ok (.ifCond .ne 16, 3) := by decide +kernel
theorem dX10_befall_22 : decode cX10_befall 22 = .ok (.aload_n 0, 1) := by decide +kernel
theorem dX10_befall_23 : decode cX10_befall 23 = .ok (.getfield 48, 3) := by decide +kernel
theorem dX10_befall_26 : decode cX10_befall 26 = .ok (.dup, 1) := by decide +kernel
theorem dX10_befall_27 : decode cX10_befall 27 = .ok (.getfield 301, 3) := by decide +kernel
theorem dX10_befall_30 : decode cX10_befall 30 = .ok (.iconst 5, 1) := by decide +kernel
theorem dX10_befall_31 : decode cX10_befall 31 = .ok (.iadd, 1) := by decide +kernel
theorem dX10_befall_32 : decode cX10_befall 32 = .ok (.putfield 301, 3) := by decide +kernel
theorem dX10_befall_35 : decode cX10_befall 35 = .ok (.iload 5, 2) := by decide +kernel
theorem dX10_befall_37 : decode cX10_befall 37 = .ok (.iconst 1, 1) := by decide +kernel
theorem dX10_befall_38 : decode cX10_befall 38 = .ok (.if_icmp .ne 42, 3) := by decide +kernel
theorem dX10_befall_41 : decode cX10_befall 41 = .ok (.aload_n 0, 1) := by decide +kernel
theorem dX10_befall_42 : decode cX10_befall 42 = .ok (.getfield 48, 3) := by decide +kernel
theorem dX10_befall_45 : decode cX10_befall 45 = .ok (.getfield 251, 3) := by decide +kernel
theorem dX10_befall_48 : decode cX10_befall 48 = .ok (.ifCond .le 32, 3) := by decide +kernel
theorem dX10_befall_51 : decode cX10_befall 51 = .ok (.lload_n 3, 1) := by decide +kernel
theorem dX10_befall_52 : decode cX10_befall 52 = .ok (.invokestatic 378, 3) := by decide +kernel
theorem dX10_befall_55 : decode cX10_befall 55 = .ok (.lstore_n 3, 1) := by decide +kernel
theorem dX10_befall_56 : decode cX10_befall 56 = .ok (.aload_n 0, 1) := by decide +kernel
theorem dX10_befall_57 : decode cX10_befall 57 = .ok (.getfield 48, 3) := by decide +kernel
theorem dX10_befall_60 : decode cX10_befall 60 = .ok (.lload_n 3, 1) := by decide +kernel
theorem dX10_befall_61 : decode cX10_befall 61 = .ok (.ldc2_w 381, 3) := by decide +kernel
theorem dX10_befall_64 : decode cX10_befall 64 = .ok (.ldiv, 1) := by decide +kernel
theorem dX10_befall_65 : decode cX10_befall 65 = .ok (.aload_n 0, 1) := by decide +kernel
theorem dX10_befall_66 : decode cX10_befall 66 = .ok (.getfield 48, 3) := by decide +kernel
theorem dX10_befall_69 : decode cX10_befall 69 = .ok (.getfield 251, 3) := by decide +kernel
theorem dX10_befall_72 : decode cX10_befall 72 = .ok (.i2l, 1) := by decide +kernel
theorem dX10_befall_73 : decode cX10_befall 73 = .ok (.lrem, 1) := by decide +kernel
theorem dX10_befall_74 : decode cX10_befall 74 = .ok (.l2i, 1) := by decide +kernel
theorem dX10_befall_75 : decode cX10_befall 75 = .ok (.bipush 30, 2) := by decide +kernel
theorem dX10_befall_77 : decode cX10_befall 77 = .ok (.invokevirtual 385, 3) := by decide +kernel
theorem dX10_befall_80 : decode cX10_befall 80 = .ok (.lload_n 3, 1) := by decide +kernel
theorem dX10_befall_81 : decode cX10_befall 81 = .ok (.lreturn, 1) := by decide +kernel
theorem dX10_drawNext_0 : decode cX10_drawNext 0 = .ok (.lload_n 0, 1) := by decide +kernel
theorem dX10_drawNext_1 : decode cX10_drawNext 1 = .ok (.ldc2_w 388, 3) := by decide +kernel
theorem dX10_drawNext_4 : decode cX10_drawNext 4 = .ok (.lmul, 1) := by decide +kernel
theorem dX10_drawNext_5 : decode cX10_drawNext 5 = .ok (.ldc2_w 390, 3) := by decide +kernel
theorem dX10_drawNext_8 : decode cX10_drawNext 8 = .ok (.ladd, 1) := by decide +kernel
theorem dX10_drawNext_9 : decode cX10_drawNext 9 = .ok (.ldc2_w 392, 3) := by decide +kernel
theorem dX10_drawNext_12 : decode cX10_drawNext 12 = .ok (.land, 1) := by decide +kernel
theorem dX10_drawNext_13 : decode cX10_drawNext 13 = .ok (.lreturn, 1) := by decide +kernel
theorem dX10_tried_0 : decode cX10_tried 0 = .ok (.iload_n 1, 1) := by decide +kernel
theorem dX10_tried_1 : decode cX10_tried 1 = .ok (.iconst 2, 1) := by decide +kernel
theorem dX10_tried_2 : decode cX10_tried 2 = .ok (.if_icmp .ne 7, 3) := by decide +kernel
theorem dX10_tried_5 : decode cX10_tried 5 = .ok (.iconst 1, 1) := by decide +kernel
theorem dX10_tried_6 : decode cX10_tried 6 = .ok (.goto 4, 3) := by decide +kernel
theorem dX10_tried_9 : decode cX10_tried 9 = .ok (.iconst 0, 1) := by decide +kernel
theorem dX10_tried_10 : decode cX10_tried 10 = .ok (.istore 4, 2) := by decide +kernel
theorem dX10_tried_12 : decode cX10_tried 12 = .ok (.iload 4, 2) := by decide +kernel
theorem dX10_tried_14 : decode cX10_tried 14 = .ok (.ifCond .eq 14, 3) := by decide +kernel
theorem dX10_tried_17 : decode cX10_tried 17 = .ok (.aload_n 0, 1) := by decide +kernel
theorem dX10_tried_18 : decode cX10_tried 18 = .ok (.getfield 42, 3) := by decide +kernel
theorem dX10_tried_21 : decode cX10_tried 21 = .ok (.iload_n 2, 1) := by decide +kernel
theorem dX10_tried_22 : decode cX10_tried 22 = .ok (.invokevirtual 172, 3) := by decide +kernel
theorem dX10_tried_25 : decode cX10_tried 25 = .ok (.goto 12, 3) := by decide +kernel
theorem dX10_tried_28 : decode cX10_tried 28 = .ok (.iload_n 2, 1) := by decide +kernel
theorem dX10_tried_29 : decode cX10_tried 29 = .ok (.ifCond .ne 7, 3) := by decide +kernel
theorem dX10_tried_32 : decode cX10_tried 32 = .ok (.iconst 1, 1) := by decide +kernel
theorem dX10_tried_33 : decode cX10_tried 33 = .ok (.goto 4, 3) := by decide +kernel
theorem dX10_tried_36 : decode cX10_tried 36 = .ok (.iconst 0, 1) := by decide +kernel
theorem dX10_tried_37 : decode cX10_tried 37 = .ok (.istore 5, 2) := by decide +kernel
theorem dX10_tried_39 : decode cX10_tried 39 = .ok (.iload 5, 2) := by decide +kernel
theorem dX10_tried_41 : decode cX10_tried 41 = .ok (.ifCond .eq 22, 3) := by decide +kernel
theorem dX10_tried_44 : decode cX10_tried 44 = .ok (.iload_n 1, 1) := by decide +kernel
theorem dX10_tried_45 : decode cX10_tried 45 = .ok (.ifCond .lt 18, 3) := by decide +kernel
theorem dX10_tried_48 : decode cX10_tried 48 = .ok (.iload_n 1, 1) := by decide +kernel
theorem dX10_tried_49 : decode cX10_tried 49 = .ok (.iconst 4, 1) := by decide +kernel
theorem dX10_tried_50 : decode cX10_tried 50 = .ok (.if_icmp .gt 13, 3) := by decide +kernel
theorem dX10_tried_53 : decode cX10_tried 53 = .ok (.iload_n 3, 1) := by decide +kernel
theorem dX10_tried_54 : decode cX10_tried 54 = .ok (.ifCond .lt 9, 3) := by decide +kernel
theorem dX10_tried_57 : decode cX10_tried 57 = .ok (.iload_n 3, 1) := by decide +kernel
theorem dX10_tried_58 : decode cX10_tried 58 = .ok (.bipush 50, 2) := by decide +kernel
theorem dX10_tried_60 : decode cX10_tried 60 = .ok (.if_icmp .le 5, 3) := by decide +kernel
theorem dX10_tried_63 : decode cX10_tried 63 = .ok (.iconst (-1), 1) := by decide +kernel
theorem dX10_tried_64 : decode cX10_tried 64 = .ok (.ireturn, 1) := by decide +kernel
theorem dX10_tried_65 : decode cX10_tried 65 = .ok (.aload_n 0, 1) := by decide +kernel
theorem dX10_tried_66 : decode cX10_tried 66 = .ok (.getfield 48, 3) := by decide +kernel
theorem dX10_tried_69 : decode cX10_tried 69 = .ok (.aload_n 0, 1) := by decide +kernel
theorem dX10_tried_70 : decode cX10_tried 70 = .ok (.getfield 42, 3) := by decide +kernel
theorem dX10_tried_73 : decode cX10_tried 73 = .ok (.invokevirtual 119, 3) := by decide +kernel
theorem dX10_tried_76 : decode cX10_tried 76 = .ok (.iload 4, 2) := by decide +kernel
theorem dX10_tried_78 : decode cX10_tried 78 = .ok (.ifCond .eq 24, 3) := by decide +kernel
theorem dX10_tried_81 : decode cX10_tried 81 = .ok (.aload_n 0, 1) := by decide +kernel
theorem dX10_tried_82 : decode cX10_tried 82 = .ok (.getfield 48, 3) := by decide +kernel
theorem dX10_tried_85 : decode cX10_tried 85 = .ok (.iload_n 2, 1) := by decide +kernel
theorem dX10_tried_86 : decode cX10_tried 86 = .ok (.invokevirtual 220, 3) := by decide +kernel
theorem dX10_tried_89 : decode cX10_tried 89 = .ok (.ifCond .eq 13, 3) := by decide +kernel
theorem dX10_tried_92 : decode cX10_tried 92 = .ok (.aload_n 0, 1) := by decide +kernel
theorem dX10_tried_93 : decode cX10_tried 93 = .ok (.getfield 48, 3) := by decide +kernel
theorem dX10_tried_96 : decode cX10_tried 96 = .ok (.getfield 190, 3) := by decide +kernel
theorem dX10_tried_99 : decode cX10_tried 99 = .ok (.iload_n 2, 1) := by decide +kernel
theorem dX10_tried_100 : decode cX10_tried 100 = .ok (.iconst 2, 1) := by decide +kernel
theorem dX10_tried_101 : decode cX10_tried 101 = .ok (.iastore, 1) := by decide +kernel
theorem dX10_tried_102 : decode cX10_tried 102 = .ok (.iload_n 1, 1) := by decide +kernel
theorem dX10_tried_103 : decode cX10_tried 103 = .ok (.iconst 3, 1) := by decide +kernel
theorem dX10_tried_104 : decode cX10_tried 104 = .ok (.if_icmp .ne 11, 3) := by decide +kernel
theorem dX10_tried_107 : decode cX10_tried 107 = .ok (.aload_n 0, 1) := by decide +kernel
theorem dX10_tried_108 : decode cX10_tried 108 = .ok (.getfield 48, 3) := by decide +kernel
theorem dX10_tried_111 : decode cX10_tried 111 = .ok (.iconst 0, 1) := by decide +kernel
theorem dX10_tried_112 : decode cX10_tried 112 = .ok (.putfield 394, 3) := by decide +kernel
theorem dX10_tried_115 : decode cX10_tried 115 = .ok (.iconst 0, 1) := by decide +kernel
theorem dX10_tried_116 : decode cX10_tried 116 = .ok (.istore 6, 2) := by decide +kernel
theorem dX10_tried_118 : decode cX10_tried 118 = .ok (.iload 6, 2) := by decide +kernel
theorem dX10_tried_120 : decode cX10_tried 120 = .ok (.iload_n 3, 1) := by decide +kernel
theorem dX10_tried_121 : decode cX10_tried 121 = .ok (.if_icmp .ge 18, 3) := by decide +kernel
theorem dX10_tried_124 : decode cX10_tried 124 = .ok (.aload_n 0, 1) := by decide +kernel
theorem dX10_tried_125 : decode cX10_tried 125 = .ok (.getfield 48, 3) := by decide +kernel
theorem dX10_tried_128 : decode cX10_tried 128 = .ok (.iload_n 1, 1) := by decide +kernel
theorem dX10_tried_129 : decode cX10_tried 129 = .ok (.invokevirtual 276, 3) := by decide +kernel
theorem dX10_tried_132 : decode cX10_tried 132 = .ok (.pop, 1) := by decide +kernel
theorem dX10_tried_133 : decode cX10_tried 133 = .ok (.iinc 6 1, 3) := by decide +kernel
theorem dX10_tried_136 : decode cX10_tried 136 = .ok (.goto (-18), 3) := by decide +kernel
theorem dX10_tried_139 : decode cX10_tried 139 = .ok (.aload_n 0, 1) := by decide +kernel
theorem dX10_tried_140 : decode cX10_tried 140 = .ok (.getfield 48, 3) := by decide +kernel
theorem dX10_tried_143 : decode cX10_tried 143 = .ok (.invokevirtual 239, 3) := by decide +kernel
theorem dX10_tried_146 : decode cX10_tried 146 = .ok (.ireturn, 1) := by decide +kernel
theorem dX10_saveAct_0 : decode cX10_saveAct 0 = .ok (.aload_n 0, 1) := by decide +kernel
theorem dX10_saveAct_1 : decode cX10_saveAct 1 = .ok (.getfield 51, 3) := by decide +kernel
theorem dX10_saveAct_4 : decode cX10_saveAct 4 = .ok (.aload_n 0, 1) := by decide +kernel
theorem dX10_saveAct_5 : decode cX10_saveAct 5 = .ok (.getfield 397, 3) := by decide +kernel
theorem dX10_saveAct_8 : decode cX10_saveAct 8 = .ok (.aaload, 1) := by decide +kernel
theorem dX10_saveAct_9 : decode cX10_saveAct 9 = .ok (.aload_n 0, 1) := by decide +kernel
theorem dX10_saveAct_10 : decode cX10_saveAct 10 = .ok (.getfield 42, 3) := by decide +kernel
theorem dX10_saveAct_13 : decode cX10_saveAct 13 = .ok (.invokevirtual 119, 3) := by decide +kernel
theorem dX10_saveAct_16 : decode cX10_saveAct 16 = .ok (.aload_n 0, 1) := by decide +kernel
theorem dX10_saveAct_17 : decode cX10_saveAct 17 = .ok (.aload_n 0, 1) := by decide +kernel
theorem dX10_saveAct_18 : decode cX10_saveAct 18 = .ok (.getfield 397, 3) := by decide +kernel
theorem dX10_saveAct_21 : decode cX10_saveAct 21 = .ok (.iconst 1, 1) := by decide +kernel
theorem dX10_saveAct_22 : decode cX10_saveAct 22 = .ok (.iadd, 1) := by decide +kernel
theorem dX10_saveAct_23 : decode cX10_saveAct 23 = .ok (.bipush 20, 2) := by decide +kernel
theorem dX10_saveAct_25 : decode cX10_saveAct 25 = .ok (.irem, 1) := by decide +kernel
theorem dX10_saveAct_26 : decode cX10_saveAct 26 = .ok (.putfield 397, 3) := by decide +kernel
theorem dX10_saveAct_29 : decode cX10_saveAct 29 = .ok (.aload_n 0, 1) := by decide +kernel
theorem dX10_saveAct_30 : decode cX10_saveAct 30 = .ok (.bipush 20, 2) := by decide +kernel
theorem dX10_saveAct_32 : decode cX10_saveAct 32 = .ok (.aload_n 0, 1) := by decide +kernel
theorem dX10_saveAct_33 : decode cX10_saveAct 33 = .ok (.getfield 400, 3) := by decide +kernel
theorem dX10_saveAct_36 : decode cX10_saveAct 36 = .ok (.iconst 1, 1) := by decide +kernel
theorem dX10_saveAct_37 : decode cX10_saveAct 37 = .ok (.iadd, 1) := by decide +kernel
theorem dX10_saveAct_38 : decode cX10_saveAct 38 = .ok (.invokestatic 246, 3) := by decide +kernel
theorem dX10_saveAct_41 : decode cX10_saveAct 41 = .ok (.putfield 400, 3) := by decide +kernel
theorem dX10_saveAct_44 : decode cX10_saveAct 44 = .ok (.return_, 1) := by decide +kernel
theorem dX10_forgetActs_0 : decode cX10_forgetActs 0 = .ok (.aload_n 0, 1) := by decide +kernel
theorem dX10_forgetActs_1 : decode cX10_forgetActs 1 = .ok (.iconst 0, 1) := by decide +kernel
theorem dX10_forgetActs_2 : decode cX10_forgetActs 2 = .ok (.putfield 400, 3) := by decide +kernel
theorem dX10_forgetActs_5 : decode cX10_forgetActs 5 = .ok (.return_, 1) := by decide +kernel
theorem dX10_undo_0 : decode cX10_undo 0 = .ok (.aload_n 0, 1) := by decide +kernel
theorem dX10_undo_1 : decode cX10_undo 1 = .ok (.getfield 400, 3) := by decide +kernel
theorem dX10_undo_4 : decode cX10_undo 4 = .ok (.ifCond .ne 5, 3) := by decide +kernel
theorem dX10_undo_7 : decode cX10_undo 7 = .ok (.iconst (-1), 1) := by decide +kernel
theorem dX10_undo_8 : decode cX10_undo 8 = .ok (.ireturn, 1) := by decide +kernel
theorem dX10_undo_9 : decode cX10_undo 9 = .ok (.aload_n 0, 1) := by decide +kernel
theorem dX10_undo_10 : decode cX10_undo 10 = .ok (.aload_n 0, 1) := by decide +kernel
theorem dX10_undo_11 : decode cX10_undo 11 = .ok (.getfield 397, 3) := by decide +kernel
theorem dX10_undo_14 : decode cX10_undo 14 = .ok (.bipush 20, 2) := by decide +kernel
theorem dX10_undo_16 : decode cX10_undo 16 = .ok (.iadd, 1) := by decide +kernel
theorem dX10_undo_17 : decode cX10_undo 17 = .ok (.iconst 1, 1) := by decide +kernel
theorem dX10_undo_18 : decode cX10_undo 18 = .ok (.isub, 1) := by decide +kernel
theorem dX10_undo_19 : decode cX10_undo 19 = .ok (.bipush 20, 2) := by decide +kernel
theorem dX10_undo_21 : decode cX10_undo 21 = .ok (.irem, 1) := by decide +kernel
theorem dX10_undo_22 : decode cX10_undo 22 = .ok (.putfield 397, 3) := by decide +kernel
theorem dX10_undo_25 : decode cX10_undo 25 = .ok (.aload_n 0, 1) := by decide +kernel
theorem dX10_undo_26 : decode cX10_undo 26 = .ok (.getfield 42, 3) := by decide +kernel
theorem dX10_undo_29 : decode cX10_undo 29 = .ok (.aload_n 0, 1) := by decide +kernel
theorem dX10_undo_30 : decode cX10_undo 30 = .ok (.getfield 51, 3) := by decide +kernel
theorem dX10_undo_33 : decode cX10_undo 33 = .ok (.aload_n 0, 1) := by decide +kernel
theorem dX10_undo_34 : decode cX10_undo 34 = .ok (.getfield 397, 3) := by decide +kernel
theorem dX10_undo_37 : decode cX10_undo 37 = .ok (.aaload, 1) := by decide +kernel
theorem dX10_undo_38 : decode cX10_undo 38 = .ok (.invokevirtual 119, 3) := by decide +kernel
theorem dX10_undo_41 : decode cX10_undo 41 = .ok (.aload_n 0, 1) := by decide +kernel
theorem dX10_undo_42 : decode cX10_undo 42 = .ok (.dup, 1) := by decide +kernel
theorem dX10_undo_43 : decode cX10_undo 43 = .ok (.getfield 400, 3) := by decide +kernel
theorem dX10_undo_46 : decode cX10_undo 46 = .ok (.iconst 1, 1) := by decide +kernel
theorem dX10_undo_47 : decode cX10_undo 47 = .ok (.isub, 1) := by decide +kernel
theorem dX10_undo_48 : decode cX10_undo 48 = .ok (.putfield 400, 3) := by decide +kernel
theorem dX10_undo_51 : decode cX10_undo 51 = .ok (.aload_n 0, 1) := by decide +kernel
theorem dX10_undo_52 : decode cX10_undo 52 = .ok (.getfield 400, 3) := by decide +kernel
theorem dX10_undo_55 : decode cX10_undo 55 = .ok (.ireturn, 1) := by decide +kernel
theorem dX10_keep_0 : decode cX10_keep 0 = .ok (.aload_n 0, 1) := by decide +kernel
theorem dX10_keep_1 : decode cX10_keep 1 = .ok (.getfield 45, 3) := by decide +kernel
theorem dX10_keep_4 : decode cX10_keep 4 = .ok (.aload_n 0, 1) := by decide +kernel
theorem dX10_keep_5 : decode cX10_keep 5 = .ok (.getfield 42, 3) := by decide +kernel
theorem dX10_keep_8 : decode cX10_keep 8 = .ok (.invokevirtual 119, 3) := by decide +kernel
theorem dX10_keep_11 : decode cX10_keep 11 = .ok (.aload_n 0, 1) := by decide +kernel
theorem dX10_keep_12 : decode cX10_keep 12 = .ok (.iconst 1, 1) := by decide +kernel
theorem dX10_keep_13 : decode cX10_keep 13 = .ok (.putfield 123, 3) := by decide +kernel
theorem dX10_keep_16 : decode cX10_keep 16 = .ok (.aload_n 0, 1) := by decide +kernel
theorem dX10_keep_17 : decode cX10_keep 17 = .ok (.getfield 42, 3) := by decide +kernel
theorem dX10_keep_20 : decode cX10_keep 20 = .ok (.getfield 273, 3) := by decide +kernel
theorem dX10_keep_23 : decode cX10_keep 23 = .ok (.ireturn, 1) := by decide +kernel
theorem dX10_back_0 : decode cX10_back 0 = .ok (.aload_n 0, 1) := by decide +kernel
theorem dX10_back_1 : decode cX10_back 1 = .ok (.getfield 123, 3) := by decide +kernel
theorem dX10_back_4 : decode cX10_back 4 = .ok (.ifCond .ne 5, 3) := by decide +kernel
theorem dX10_back_7 : decode cX10_back 7 = .ok (.iconst (-1), 1) := by decide +kernel
theorem dX10_back_8 : decode cX10_back 8 = .ok (.ireturn, 1) := by decide +kernel
theorem dX10_back_9 : decode cX10_back 9 = .ok (.aload_n 0, 1) := by decide +kernel
theorem dX10_back_10 : decode cX10_back 10 = .ok (.getfield 42, 3) := by decide +kernel
theorem dX10_back_13 : decode cX10_back 13 = .ok (.aload_n 0, 1) := by decide +kernel
theorem dX10_back_14 : decode cX10_back 14 = .ok (.getfield 45, 3) := by decide +kernel
theorem dX10_back_17 : decode cX10_back 17 = .ok (.invokevirtual 119, 3) := by decide +kernel
theorem dX10_back_20 : decode cX10_back 20 = .ok (.aload_n 0, 1) := by decide +kernel
theorem dX10_back_21 : decode cX10_back 21 = .ok (.invokevirtual 127, 3) := by decide +kernel
theorem dX10_back_24 : decode cX10_back 24 = .ok (.aload_n 0, 1) := by decide +kernel
theorem dX10_back_25 : decode cX10_back 25 = .ok (.getfield 42, 3) := by decide +kernel
theorem dX10_back_28 : decode cX10_back 28 = .ok (.getfield 273, 3) := by decide +kernel
theorem dX10_back_31 : decode cX10_back 31 = .ok (.ireturn, 1) := by decide +kernel
theorem dX10_count_0 : decode cX10_count 0 = .ok (.iload_n 1, 1) := by decide +kernel
theorem dX10_count_1 : decode cX10_count 1 = .ok (.tableswitch 220 0 15 #[79, 87, 95, 104, 113, 122, 131, 139, 148, 157, 168, 176, 191, 199, 207, 215], 79) := by decide +kernel
theorem dX10_count_80 : decode cX10_count 80 = .ok (.aload_n 0, 1) := by decide +kernel
theorem dX10_count_81 : decode cX10_count 81 = .ok (.getfield 29, 3) := by decide +kernel
theorem dX10_count_84 : decode cX10_count 84 = .ok (.getfield 169, 3) := by decide +kernel
theorem dX10_count_87 : decode cX10_count 87 = .ok (.ireturn, 1) := by decide +kernel
theorem dX10_count_88 : decode cX10_count 88 = .ok (.aload_n 0, 1) := by decide +kernel
theorem dX10_count_89 : decode cX10_count 89 = .ok (.getfield 42, 3) := by decide +kernel
theorem dX10_count_92 : decode cX10_count 92 = .ok (.getfield 251, 3) := by decide +kernel
theorem dX10_count_95 : decode cX10_count 95 = .ok (.ireturn, 1) := by decide +kernel
theorem dX10_count_96 : decode cX10_count 96 = .ok (.aload_n 0, 1) := by decide +kernel
theorem dX10_count_97 : decode cX10_count 97 = .ok (.getfield 42, 3) := by decide +kernel
theorem dX10_count_100 : decode cX10_count 100 = .ok (.iconst 0, 1) := by decide +kernel
theorem dX10_count_101 : decode cX10_count 101 = .ok (.invokevirtual 403, 3) := by decide +kernel
theorem dX10_count_104 : decode cX10_count 104 = .ok (.ireturn, 1) := by decide +kernel
theorem dX10_count_105 : decode cX10_count 105 = .ok (.aload_n 0, 1) := by decide +kernel
theorem dX10_count_106 : decode cX10_count 106 = .ok (.getfield 42, 3) := by decide +kernel
theorem dX10_count_109 : decode cX10_count 109 = .ok (.iconst 1, 1) := by decide +kernel
theorem dX10_count_110 : decode cX10_count 110 = .ok (.invokevirtual 403, 3) := by decide +kernel
theorem dX10_count_113 : decode cX10_count 113 = .ok (.ireturn, 1) := by decide +kernel
theorem dX10_count_114 : decode cX10_count 114 = .ok (.aload_n 0, 1) := by decide +kernel
theorem dX10_count_115 : decode cX10_count 115 = .ok (.getfield 42, 3) := by decide +kernel
theorem dX10_count_118 : decode cX10_count 118 = .ok (.iconst 2, 1) := by decide +kernel
theorem dX10_count_119 : decode cX10_count 119 = .ok (.invokevirtual 403, 3) := by decide +kernel
theorem dX10_count_122 : decode cX10_count 122 = .ok (.ireturn, 1) := by decide +kernel
theorem dX10_count_123 : decode cX10_count 123 = .ok (.aload_n 0, 1) := by decide +kernel
theorem dX10_count_124 : decode cX10_count 124 = .ok (.getfield 42, 3) := by decide +kernel
theorem dX10_count_127 : decode cX10_count 127 = .ok (.iconst 3, 1) := by decide +kernel
theorem dX10_count_128 : decode cX10_count 128 = .ok (.invokevirtual 403, 3) := by decide +kernel
theorem dX10_count_131 : decode cX10_count 131 = .ok (.ireturn, 1) := by decide +kernel
theorem dX10_count_132 : decode cX10_count 132 = .ok (.aload_n 0, 1) := by decide +kernel
theorem dX10_count_133 : decode cX10_count 133 = .ok (.getfield 29, 3) := by decide +kernel
theorem dX10_count_136 : decode cX10_count 136 = .ok (.getfield 205, 3) := by decide +kernel
theorem dX10_count_139 : decode cX10_count 139 = .ok (.ireturn, 1) := by decide +kernel
theorem dX10_count_140 : decode cX10_count 140 = .ok (.aload_n 0, 1) := by decide +kernel
theorem dX10_count_141 : decode cX10_count 141 = .ok (.getfield 42, 3) := by decide +kernel
theorem dX10_count_144 : decode cX10_count 144 = .ok (.iconst 1, 1) := by decide +kernel
theorem dX10_count_145 : decode cX10_count 145 = .ok (.invokevirtual 406, 3) := by decide +kernel
theorem dX10_count_148 : decode cX10_count 148 = .ok (.ireturn, 1) := by decide +kernel
theorem dX10_count_149 : decode cX10_count 149 = .ok (.aload_n 0, 1) := by decide +kernel
theorem dX10_count_150 : decode cX10_count 150 = .ok (.getfield 42, 3) := by decide +kernel
theorem dX10_count_153 : decode cX10_count 153 = .ok (.iconst 2, 1) := by decide +kernel
theorem dX10_count_154 : decode cX10_count 154 = .ok (.invokevirtual 406, 3) := by decide +kernel
theorem dX10_count_157 : decode cX10_count 157 = .ok (.ireturn, 1) := by decide +kernel
theorem dX10_count_158 : decode cX10_count 158 = .ok (.aload_n 0, 1) := by decide +kernel
theorem dX10_count_159 : decode cX10_count 159 = .ok (.getfield 29, 3) := by decide +kernel
theorem dX10_count_162 : decode cX10_count 162 = .ok (.getfield 231, 3) := by decide +kernel
theorem dX10_count_165 : decode cX10_count 165 = .ok (.getfield 409, 3) := by decide +kernel
theorem dX10_count_168 : decode cX10_count 168 = .ok (.ireturn, 1) := by decide +kernel
theorem dX10_count_169 : decode cX10_count 169 = .ok (.aload_n 0, 1) := by decide +kernel
theorem dX10_count_170 : decode cX10_count 170 = .ok (.getfield 42, 3) := by decide +kernel
theorem dX10_count_173 : decode cX10_count 173 = .ok (.getfield 273, 3) := by decide +kernel
theorem dX10_count_176 : decode cX10_count 176 = .ok (.ireturn, 1) := by decide +kernel
theorem dX10_count_177 : decode cX10_count 177 = .ok (.aload_n 0, 1) := by decide +kernel
theorem dX10_count_178 : decode cX10_count 178 = .ok (.getfield 42, 3) := by decide +kernel
theorem dX10_count_181 : decode cX10_count 181 = .ok (.aload_n 0, 1) := by decide +kernel
theorem dX10_count_182 : decode cX10_count 182 = .ok (.getfield 42, 3) := by decide +kernel
theorem dX10_count_185 : decode cX10_count 185 = .ok (.invokevirtual 279, 3) := by decide +kernel
theorem dX10_count_188 : decode cX10_count 188 = .ok (.invokevirtual 371, 3) := by decide +kernel
theorem dX10_count_191 : decode cX10_count 191 = .ok (.ireturn, 1) := by decide +kernel
theorem dX10_count_192 : decode cX10_count 192 = .ok (.aload_n 0, 1) := by decide +kernel
theorem dX10_count_193 : decode cX10_count 193 = .ok (.getfield 42, 3) := by decide +kernel
theorem dX10_count_196 : decode cX10_count 196 = .ok (.getfield 301, 3) := by decide +kernel
theorem dX10_count_199 : decode cX10_count 199 = .ok (.ireturn, 1) := by decide +kernel
theorem dX10_count_200 : decode cX10_count 200 = .ok (.aload_n 0, 1) := by decide +kernel
theorem dX10_count_201 : decode cX10_count 201 = .ok (.getfield 58, 3) := by decide +kernel
theorem dX10_count_204 : decode cX10_count 204 = .ok (.getfield 332, 3) := by decide +kernel
theorem dX10_count_207 : decode cX10_count 207 = .ok (.ireturn, 1) := by decide +kernel
theorem dX10_count_208 : decode cX10_count 208 = .ok (.aload_n 0, 1) := by decide +kernel
theorem dX10_count_209 : decode cX10_count 209 = .ok (.getfield 58, 3) := by decide +kernel
theorem dX10_count_212 : decode cX10_count 212 = .ok (.invokevirtual 412, 3) := by decide +kernel
theorem dX10_count_215 : decode cX10_count 215 = .ok (.ireturn, 1) := by decide +kernel
theorem dX10_count_216 : decode cX10_count 216 = .ok (.aload_n 0, 1) := by decide +kernel
theorem dX10_count_217 : decode cX10_count 217 = .ok (.getfield 400, 3) := by decide +kernel
theorem dX10_count_220 : decode cX10_count 220 = .ok (.ireturn, 1) := by decide +kernel
theorem dX10_count_221 : decode cX10_count 221 = .ok (.iconst (-1), 1) := by decide +kernel
theorem dX10_count_222 : decode cX10_count 222 = .ok (.ireturn, 1) := by decide +kernel
