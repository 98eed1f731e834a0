theorem dX1_init_0 : decode cX1_init 0 = .ok (.aload_n 0, 1) := by decide +kernel
theorem dX1_init_1 : decode cX1_init 1 = .ok (.invokespecial 5, 3) := by decide +kernel
theorem dX1_init_4 : decode cX1_init 4 = .ok (.aload_n 0, 1) := by decide +kernel
theorem dX1_init_5 : decode cX1_init 5 = .ok (.bipush 72, 2) := by decide +kernel
theorem dX1_init_7 : decode cX1_init 7 = .ok (.newarray .int, 2) := by decide +kernel
theorem dX1_init_9 : decode cX1_init 9 = .ok (.putfield 11, 3) := by decide +kernel
theorem dX1_init_12 : decode cX1_init 12 = .ok (.aload_n 0, 1) := by decide +kernel
theorem dX1_init_13 : decode cX1_init 13 = .ok (.aload_n 1, 1) := by decide +kernel
theorem dX1_init_14 : decode cX1_init 14 = .ok (.putfield 15, 3) := by decide +kernel
theorem dX1_init_17 : decode cX1_init 17 = .ok (.return_, 1) := by decide +kernel
theorem dX1_readInto_0 : decode cX1_readInto 0 = .ok (.aload_n 0, 1) := by decide +kernel
theorem dX1_readInto_1 : decode cX1_readInto 1 = .ok (.aload_n 1, 1) := by decide +kernel
theorem dX1_readInto_2 : decode cX1_readInto 2 = .ok (.putfield 19, 3) := by decide +kernel
theorem dX1_readInto_5 : decode cX1_readInto 5 = .ok (.aload_n 0, 1) := by decide +kernel
theorem dX1_readInto_6 : decode cX1_readInto 6 = .ok (.iconst 0, 1) := by decide +kernel
theorem dX1_readInto_7 : decode cX1_readInto 7 = .ok (.putfield 23, 3) := by decide +kernel
theorem dX1_readInto_10 : decode cX1_readInto 10 = .ok (.aload_n 0, 1) := by decide +kernel
theorem dX1_readInto_11 : decode cX1_readInto 11 = .ok (.iconst 0, 1) := by decide +kernel
theorem dX1_readInto_12 : decode cX1_readInto 12 = .ok (.putfield 27, 3) := by decide +kernel
theorem dX1_readInto_15 : decode cX1_readInto 15 = .ok (.aload_n 0, 1) := by decide +kernel
theorem dX1_readInto_16 : decode cX1_readInto 16 = .ok (.iconst 1, 1) := by decide +kernel
theorem dX1_readInto_17 : decode cX1_readInto 17 = .ok (.putfield 30, 3) := by decide +kernel
theorem dX1_readInto_20 : decode cX1_readInto 20 = .ok (.aload_n 0, 1) := by decide +kernel
theorem dX1_readInto_21 : decode cX1_readInto 21 = .ok (.iconst 1, 1) := by decide +kernel
theorem dX1_readInto_22 : decode cX1_readInto 22 = .ok (.putfield 34, 3) := by decide +kernel
theorem dX1_readInto_25 : decode cX1_readInto 25 = .ok (.aload_n 0, 1) := by decide +kernel
theorem dX1_readInto_26 : decode cX1_readInto 26 = .ok (.getfield 19, 3) := by decide +kernel
theorem dX1_readInto_29 : decode cX1_readInto 29 = .ok (.getfield 37, 3) := by decide +kernel
theorem dX1_readInto_32 : decode cX1_readInto 32 = .ok (.istore_n 3, 1) := by decide +kernel
theorem dX1_readInto_33 : decode cX1_readInto 33 = .ok (.iconst 0, 1) := by decide +kernel
theorem dX1_readInto_34 : decode cX1_readInto 34 = .ok (.istore 4, 2) := by decide +kernel
theorem dX1_readInto_36 : decode cX1_readInto 36 = .ok (.iconst 0, 1) := by decide +kernel
theorem dX1_readInto_37 : decode cX1_readInto 37 = .ok (.istore 5, 2) := by decide +kernel
theorem dX1_readInto_39 : decode cX1_readInto 39 = .ok (.iload 5, 2) := by decide +kernel
theorem dX1_readInto_41 : decode cX1_readInto 41 = .ok (.sipush 700, 3) := by decide +kernel
theorem dX1_readInto_44 : decode cX1_readInto 44 = .ok (.if_icmp .gt 53, 3) := by decide +kernel
theorem dX1_readInto_47 : decode cX1_readInto 47 = .ok (.iload 4, 2) := by decide +kernel
theorem dX1_readInto_49 : decode cX1_readInto 49 = .ok (.ifCond .ne 48, 3) := by decide +kernel
theorem dX1_readInto_52 : decode cX1_readInto 52 = .ok (.aload_n 0, 1) := by decide +kernel
theorem dX1_readInto_53 : decode cX1_readInto 53 = .ok (.invokevirtual 42, 3) := by decide +kernel
theorem dX1_readInto_56 : decode cX1_readInto 56 = .ok (.ifCond .ne 41, 3) := by decide +kernel
theorem dX1_readInto_59 : decode cX1_readInto 59 = .ok (.aload_n 0, 1) := by decide +kernel
theorem dX1_readInto_60 : decode cX1_readInto 60 = .ok (.getfield 30, 3) := by decide +kernel
theorem dX1_readInto_63 : decode cX1_readInto 63 = .ok (.ifCond .eq 10, 3) := by decide +kernel
theorem dX1_readInto_66 : decode cX1_readInto 66 = .ok (.aload_n 0, 1) := by decide +kernel
theorem dX1_readInto_67 : decode cX1_readInto 67 = .ok (.invokevirtual 46, 3) := by decide +kernel
theorem dX1_readInto_70 : decode cX1_readInto 70 = .ok (.goto 7, 3) := by decide +kernel
theorem dX1_readInto_73 : decode cX1_readInto 73 = .ok (.aload_n 0, 1) := by decide +kernel
theorem dX1_readInto_74 : decode cX1_readInto 74 = .ok (.invokevirtual 50, 3) := by decide +kernel
theorem dX1_readInto_77 : decode cX1_readInto 77 = .ok (.istore 4, 2) := by decide +kernel
theorem dX1_readInto_79 : decode cX1_readInto 79 = .ok (.iload 4, 2) := by decide +kernel
theorem dX1_readInto_81 : decode cX1_readInto 81 = .ok (.ifCond .ne 10, 3) := by decide +kernel
theorem dX1_readInto_84 : decode cX1_readInto 84 = .ok (.aload_n 0, 1) := by decide +kernel
theorem dX1_readInto_85 : decode cX1_readInto 85 = .ok (.getfield 15, 3) := by decide +kernel
theorem dX1_readInto_88 : decode cX1_readInto 88 = .ok (.invokevirtual 53, 3) := by decide +kernel
theorem dX1_readInto_91 : decode cX1_readInto 91 = .ok (.iinc 5 1, 3) := by decide +kernel
theorem dX1_readInto_94 : decode cX1_readInto 94 = .ok (.goto (-55), 3) := by decide +kernel
theorem dX1_readInto_97 : decode cX1_readInto 97 = .ok (.iload 4, 2) := by decide +kernel
theorem dX1_readInto_99 : decode cX1_readInto 99 = .ok (.ifCond .ne 34, 3) := by decide +kernel
theorem dX1_readInto_102 : decode cX1_readInto 102 = .ok (.aload_n 0, 1) := by decide +kernel
theorem dX1_readInto_103 : decode cX1_readInto 103 = .ok (.iconst 1, 1) := by decide +kernel
theorem dX1_readInto_104 : decode cX1_readInto 104 = .ok (.invokevirtual 58, 3) := by decide +kernel
theorem dX1_readInto_107 : decode cX1_readInto 107 = .ok (.aload_n 0, 1) := by decide +kernel
theorem dX1_readInto_108 : decode cX1_readInto 108 = .ok (.getfield 19, 3) := by decide +kernel
theorem dX1_readInto_111 : decode cX1_readInto 111 = .ok (.getfield 62, 3) := by decide +kernel
theorem dX1_readInto_114 : decode cX1_readInto 114 = .ok (.iload_n 2, 1) := by decide +kernel
theorem dX1_readInto_115 : decode cX1_readInto 115 = .ok (.iload_n 3, 1) := by decide +kernel
theorem dX1_readInto_116 : decode cX1_readInto 116 = .ok (.iastore, 1) := by decide +kernel
theorem dX1_readInto_117 : decode cX1_readInto 117 = .ok (.aload_n 0, 1) := by decide +kernel
theorem dX1_readInto_118 : decode cX1_readInto 118 = .ok (.getfield 19, 3) := by decide +kernel
theorem dX1_readInto_121 : decode cX1_readInto 121 = .ok (.getfield 65, 3) := by decide +kernel
theorem dX1_readInto_124 : decode cX1_readInto 124 = .ok (.iload_n 2, 1) := by decide +kernel
theorem dX1_readInto_125 : decode cX1_readInto 125 = .ok (.aload_n 0, 1) := by decide +kernel
theorem dX1_readInto_126 : decode cX1_readInto 126 = .ok (.getfield 19, 3) := by decide +kernel
theorem dX1_readInto_129 : decode cX1_readInto 129 = .ok (.getfield 37, 3) := by decide +kernel
theorem dX1_readInto_132 : decode cX1_readInto 132 = .ok (.iastore, 1) := by decide +kernel
theorem dX1_readInto_133 : decode cX1_readInto 133 = .ok (.iload 4, 2) := by decide +kernel
theorem dX1_readInto_135 : decode cX1_readInto 135 = .ok (.ireturn, 1) := by decide +kernel
theorem dX1_atEnd_0 : decode cX1_atEnd 0 = .ok (.aload_n 0, 1) := by decide +kernel
theorem dX1_atEnd_1 : decode cX1_atEnd 1 = .ok (.getfield 30, 3) := by decide +kernel
theorem dX1_atEnd_4 : decode cX1_atEnd 4 = .ok (.ifCond .ne 26, 3) := by decide +kernel
theorem dX1_atEnd_7 : decode cX1_atEnd 7 = .ok (.aload_n 0, 1) := by decide +kernel
theorem dX1_atEnd_8 : decode cX1_atEnd 8 = .ok (.getfield 27, 3) := by decide +kernel
theorem dX1_atEnd_11 : decode cX1_atEnd 11 = .ok (.ifCond .ne 19, 3) := by decide +kernel
theorem dX1_atEnd_14 : decode cX1_atEnd 14 = .ok (.aload_n 0, 1) := by decide +kernel
theorem dX1_atEnd_15 : decode cX1_atEnd 15 = .ok (.getfield 15, 3) := by decide +kernel
theorem dX1_atEnd_18 : decode cX1_atEnd 18 = .ok (.getfield 68, 3) := by decide +kernel
theorem dX1_atEnd_21 : decode cX1_atEnd 21 = .ok (.bipush 35, 2) := by decide +kernel
theorem dX1_atEnd_23 : decode cX1_atEnd 23 = .ok (.if_icmp .ne 7, 3) := by decide +kernel
theorem dX1_atEnd_26 : decode cX1_atEnd 26 = .ok (.iconst 1, 1) := by decide +kernel
theorem dX1_atEnd_27 : decode cX1_atEnd 27 = .ok (.goto 4, 3) := by decide +kernel
theorem dX1_atEnd_30 : decode cX1_atEnd 30 = .ok (.iconst 0, 1) := by decide +kernel
theorem dX1_atEnd_31 : decode cX1_atEnd 31 = .ok (.ireturn, 1) := by decide +kernel
theorem dX1_part_0 : decode cX1_part 0 = .ok (.aload_n 0, 1) := by decide +kernel
theorem dX1_part_1 : decode cX1_part 1 = .ok (.getfield 15, 3) := by decide +kernel
theorem dX1_part_4 : decode cX1_part 4 = .ok (.getfield 68, 3) := by decide +kernel
theorem dX1_part_7 : decode cX1_part 7 = .ok (.istore_n 1, 1) := by decide +kernel
theorem dX1_part_8 : decode cX1_part 8 = .ok (.iload_n 1, 1) := by decide +kernel
theorem dX1_part_9 : decode cX1_part 9 = .ok (.bipush 33, 2) := by decide +kernel
theorem dX1_part_11 : decode cX1_part 11 = .ok (.if_icmp .ne 8, 3) := by decide +kernel
theorem dX1_part_14 : decode cX1_part 14 = .ok (.aload_n 0, 1) := by decide +kernel
theorem dX1_part_15 : decode cX1_part 15 = .ok (.invokevirtual 71, 3) := by decide +kernel
theorem dX1_part_18 : decode cX1_part 18 = .ok (.ireturn, 1) := by decide +kernel
theorem dX1_part_19 : decode cX1_part 19 = .ok (.iload_n 1, 1) := by decide +kernel
theorem dX1_part_20 : decode cX1_part 20 = .ok (.bipush 22, 2) := by decide +kernel
theorem dX1_part_22 : decode cX1_part 22 = .ok (.if_icmp .ne 15, 3) := by decide +kernel
theorem dX1_part_25 : decode cX1_part 25 = .ok (.aload_n 0, 1) := by decide +kernel
theorem dX1_part_26 : decode cX1_part 26 = .ok (.getfield 34, 3) := by decide +kernel
theorem dX1_part_29 : decode cX1_part 29 = .ok (.ifCond .eq 8, 3) := by decide +kernel
theorem dX1_part_32 : decode cX1_part 32 = .ok (.aload_n 0, 1) := by decide +kernel
theorem dX1_part_33 : decode cX1_part 33 = .ok (.invokevirtual 74, 3) := by decide +kernel
theorem dX1_part_36 : decode cX1_part 36 = .ok (.ireturn, 1) := by decide +kernel
theorem dX1_part_37 : decode cX1_part 37 = .ok (.iload_n 1, 1) := by decide +kernel
theorem dX1_part_38 : decode cX1_part 38 = .ok (.bipush 13, 2) := by decide +kernel
theorem dX1_part_40 : decode cX1_part 40 = .ok (.if_icmp .lt 13, 3) := by decide +kernel
theorem dX1_part_43 : decode cX1_part 43 = .ok (.iload_n 1, 1) := by decide +kernel
theorem dX1_part_44 : decode cX1_part 44 = .ok (.bipush 19, 2) := by decide +kernel
theorem dX1_part_46 : decode cX1_part 46 = .ok (.if_icmp .gt 7, 3) := by decide +kernel
theorem dX1_part_49 : decode cX1_part 49 = .ok (.iconst 1, 1) := by decide +kernel
theorem dX1_part_50 : decode cX1_part 50 = .ok (.goto 4, 3) := by decide +kernel
theorem dX1_part_53 : decode cX1_part 53 = .ok (.iconst 0, 1) := by decide +kernel
theorem dX1_part_54 : decode cX1_part 54 = .ok (.istore_n 2, 1) := by decide +kernel
theorem dX1_part_55 : decode cX1_part 55 = .ok (.iload_n 1, 1) := by decide +kernel
theorem dX1_part_56 : decode cX1_part 56 = .ok (.bipush 36, 2) := by decide +kernel
theorem dX1_part_58 : decode cX1_part 58 = .ok (.if_icmp .eq 9, 3) := by decide +kernel
theorem dX1_part_61 : decode cX1_part 61 = .ok (.iload_n 2, 1) := by decide +kernel
theorem dX1_part_62 : decode cX1_part 62 = .ok (.ifCond .ne 5, 3) := by decide +kernel
theorem dX1_part_65 : decode cX1_part 65 = .ok (.iconst 1, 1) := by decide +kernel
theorem dX1_part_66 : decode cX1_part 66 = .ok (.ireturn, 1) := by decide +kernel
theorem dX1_part_67 : decode cX1_part 67 = .ok (.iload_n 2, 1) := by decide +kernel
theorem dX1_part_68 : decode cX1_part 68 = .ok (.ifCond .ne 16, 3) := by decide +kernel
theorem dX1_part_71 : decode cX1_part 71 = .ok (.aload_n 0, 1) := by decide +kernel
theorem dX1_part_72 : decode cX1_part 72 = .ok (.getfield 15, 3) := by decide +kernel
theorem dX1_part_75 : decode cX1_part 75 = .ok (.getfield 79, 3) := by decide +kernel
theorem dX1_part_78 : decode cX1_part 78 = .ok (.sipush 10000, 3) := by decide +kernel
theorem dX1_part_81 : decode cX1_part 81 = .ok (.if_icmp .ge 15, 3) := by decide +kernel
theorem dX1_part_84 : decode cX1_part 84 = .ok (.aload_n 0, 1) := by decide +kernel
theorem dX1_part_85 : decode cX1_part 85 = .ok (.getfield 19, 3) := by decide +kernel
theorem dX1_part_88 : decode cX1_part 88 = .ok (.getfield 82, 3) := by decide +kernel
theorem dX1_part_91 : decode cX1_part 91 = .ok (.bipush 64, 2) := by decide +kernel
theorem dX1_part_93 : decode cX1_part 93 = .ok (.if_icmp .lt 5, 3) := by decide +kernel
theorem dX1_part_96 : decode cX1_part 96 = .ok (.iconst 2, 1) := by decide +kernel
theorem dX1_part_97 : decode cX1_part 97 = .ok (.ireturn, 1) := by decide +kernel
theorem dX1_part_98 : decode cX1_part 98 = .ok (.aload_n 0, 1) := by decide +kernel
theorem dX1_part_99 : decode cX1_part 99 = .ok (.getfield 19, 3) := by decide +kernel
theorem dX1_part_102 : decode cX1_part 102 = .ok (.dup, 1) := by decide +kernel
theorem dX1_part_103 : decode cX1_part 103 = .ok (.getfield 82, 3) := by decide +kernel
theorem dX1_part_106 : decode cX1_part 106 = .ok (.iconst 1, 1) := by decide +kernel
theorem dX1_part_107 : decode cX1_part 107 = .ok (.iadd, 1) := by decide +kernel
theorem dX1_part_108 : decode cX1_part 108 = .ok (.putfield 82, 3) := by decide +kernel
theorem dX1_part_111 : decode cX1_part 111 = .ok (.aload_n 0, 1) := by decide +kernel
theorem dX1_part_112 : decode cX1_part 112 = .ok (.getfield 19, 3) := by decide +kernel
theorem dX1_part_115 : decode cX1_part 115 = .ok (.iload_n 2, 1) := by decide +kernel
theorem dX1_part_116 : decode cX1_part 116 = .ok (.ifCond .eq 11, 3) := by decide +kernel
theorem dX1_part_119 : decode cX1_part 119 = .ok (.sipush 10000, 3) := by decide +kernel
theorem dX1_part_122 : decode cX1_part 122 = .ok (.iload_n 1, 1) := by decide +kernel
theorem dX1_part_123 : decode cX1_part 123 = .ok (.iadd, 1) := by decide +kernel
theorem dX1_part_124 : decode cX1_part 124 = .ok (.goto 10, 3) := by decide +kernel
theorem dX1_part_127 : decode cX1_part 127 = .ok (.aload_n 0, 1) := by decide +kernel
theorem dX1_part_128 : decode cX1_part 128 = .ok (.getfield 15, 3) := by decide +kernel
theorem dX1_part_131 : decode cX1_part 131 = .ok (.getfield 79, 3) := by decide +kernel
theorem dX1_part_134 : decode cX1_part 134 = .ok (.invokevirtual 85, 3) := by decide +kernel
theorem dX1_part_137 : decode cX1_part 137 = .ok (.aload_n 0, 1) := by decide +kernel
theorem dX1_part_138 : decode cX1_part 138 = .ok (.iconst 0, 1) := by decide +kernel
theorem dX1_part_139 : decode cX1_part 139 = .ok (.putfield 30, 3) := by decide +kernel
theorem dX1_part_142 : decode cX1_part 142 = .ok (.iconst 0, 1) := by decide +kernel
theorem dX1_part_143 : decode cX1_part 143 = .ok (.ireturn, 1) := by decide +kernel
theorem dX1_openBracket_0 : decode cX1_openBracket 0 = .ok (.aload_n 0, 1) := by decide +kernel
theorem dX1_openBracket_1 : decode cX1_openBracket 1 = .ok (.getfield 27, 3) := by decide +kernel
theorem dX1_openBracket_4 : decode cX1_openBracket 4 = .ok (.bipush 8, 2) := by decide +kernel
theorem dX1_openBracket_6 : decode cX1_openBracket 6 = .ok (.if_icmp .lt 5, 3) := by decide +kernel
theorem dX1_openBracket_9 : decode cX1_openBracket 9 = .ok (.iconst 2, 1) := by decide +kernel
theorem dX1_openBracket_10 : decode cX1_openBracket 10 = .ok (.ireturn, 1) := by decide +kernel
theorem dX1_openBracket_11 : decode cX1_openBracket 11 = .ok (.aload_n 0, 1) := by decide +kernel
theorem dX1_openBracket_12 : decode cX1_openBracket 12 = .ok (.dup, 1) := by decide +kernel
theorem dX1_openBracket_13 : decode cX1_openBracket 13 = .ok (.getfield 27, 3) := by decide +kernel
theorem dX1_openBracket_16 : decode cX1_openBracket 16 = .ok (.iconst 1, 1) := by decide +kernel
theorem dX1_openBracket_17 : decode cX1_openBracket 17 = .ok (.iadd, 1) := by decide +kernel
theorem dX1_openBracket_18 : decode cX1_openBracket 18 = .ok (.putfield 27, 3) := by decide +kernel
theorem dX1_openBracket_21 : decode cX1_openBracket 21 = .ok (.aload_n 0, 1) := by decide +kernel
theorem dX1_openBracket_22 : decode cX1_openBracket 22 = .ok (.bipush 33, 2) := by decide +kernel
theorem dX1_openBracket_24 : decode cX1_openBracket 24 = .ok (.invokevirtual 88, 3) := by decide +kernel
theorem dX1_openBracket_27 : decode cX1_openBracket 27 = .ok (.aload_n 0, 1) := by decide +kernel
theorem dX1_openBracket_28 : decode cX1_openBracket 28 = .ok (.iconst 1, 1) := by decide +kernel
theorem dX1_openBracket_29 : decode cX1_openBracket 29 = .ok (.putfield 34, 3) := by decide +kernel
theorem dX1_openBracket_32 : decode cX1_openBracket 32 = .ok (.iconst 0, 1) := by decide +kernel
theorem dX1_openBracket_33 : decode cX1_openBracket 33 = .ok (.ireturn, 1) := by decide +kernel
theorem dX1_knotWaits_0 : decode cX1_knotWaits 0 = .ok (.aload_n 0, 1) := by decide +kernel
theorem dX1_knotWaits_1 : decode cX1_knotWaits 1 = .ok (.getfield 19, 3) := by decide +kernel
theorem dX1_knotWaits_4 : decode cX1_knotWaits 4 = .ok (.getfield 82, 3) := by decide +kernel
theorem dX1_knotWaits_7 : decode cX1_knotWaits 7 = .ok (.bipush 64, 2) := by decide +kernel
theorem dX1_knotWaits_9 : decode cX1_knotWaits 9 = .ok (.if_icmp .lt 5, 3) := by decide +kernel
theorem dX1_knotWaits_12 : decode cX1_knotWaits 12 = .ok (.iconst 2, 1) := by decide +kernel
theorem dX1_knotWaits_13 : decode cX1_knotWaits 13 = .ok (.ireturn, 1) := by decide +kernel
theorem dX1_knotWaits_14 : decode cX1_knotWaits 14 = .ok (.aload_n 0, 1) := by decide +kernel
theorem dX1_knotWaits_15 : decode cX1_knotWaits 15 = .ok (.getfield 19, 3) := by decide +kernel
theorem dX1_knotWaits_18 : decode cX1_knotWaits 18 = .ok (.dup, 1) := by decide +kernel
theorem dX1_knotWaits_19 : decode cX1_knotWaits 19 = .ok (.getfield 82, 3) := by decide +kernel
theorem dX1_knotWaits_22 : decode cX1_knotWaits 22 = .ok (.iconst 1, 1) := by decide +kernel
theorem dX1_knotWaits_23 : decode cX1_knotWaits 23 = .ok (.iadd, 1) := by decide +kernel
theorem dX1_knotWaits_24 : decode cX1_knotWaits 24 = .ok (.putfield 82, 3) := by decide +kernel
theorem dX1_knotWaits_27 : decode cX1_knotWaits 27 = .ok (.aload_n 0, 1) := by decide +kernel
theorem dX1_knotWaits_28 : decode cX1_knotWaits 28 = .ok (.aload_n 0, 1) := by decide +kernel
theorem dX1_knotWaits_29 : decode cX1_knotWaits 29 = .ok (.getfield 15, 3) := by decide +kernel
theorem dX1_knotWaits_32 : decode cX1_knotWaits 32 = .ok (.getfield 68, 3) := by decide +kernel
theorem dX1_knotWaits_35 : decode cX1_knotWaits 35 = .ok (.invokevirtual 88, 3) := by decide +kernel
theorem dX1_knotWaits_38 : decode cX1_knotWaits 38 = .ok (.iconst 0, 1) := by decide +kernel
theorem dX1_knotWaits_39 : decode cX1_knotWaits 39 = .ok (.ireturn, 1) := by decide +kernel
theorem dX1_behindPart_0 : decode cX1_behindPart 0 = .ok (.aload_n 0, 1) := by decide +kernel
theorem dX1_behindPart_1 : decode cX1_behindPart 1 = .ok (.getfield 15, 3) := by decide +kernel
theorem dX1_behindPart_4 : decode cX1_behindPart 4 = .ok (.getfield 68, 3) := by decide +kernel
theorem dX1_behindPart_7 : decode cX1_behindPart 7 = .ok (.bipush 34, 2) := by decide +kernel
theorem dX1_behindPart_9 : decode cX1_behindPart 9 = .ok (.if_icmp .ne 41, 3) := by decide +kernel
theorem dX1_behindPart_12 : decode cX1_behindPart 12 = .ok (.aload_n 0, 1) := by decide +kernel
theorem dX1_behindPart_13 : decode cX1_behindPart 13 = .ok (.getfield 27, 3) := by decide +kernel
theorem dX1_behindPart_16 : decode cX1_behindPart 16 = .ok (.ifCond .le 34, 3) := by decide +kernel
theorem dX1_behindPart_19 : decode cX1_behindPart 19 = .ok (.aload_n 0, 1) := by decide +kernel
theorem dX1_behindPart_20 : decode cX1_behindPart 20 = .ok (.iconst 1, 1) := by decide +kernel
theorem dX1_behindPart_21 : decode cX1_behindPart 21 = .ok (.invokevirtual 58, 3) := by decide +kernel
theorem dX1_behindPart_24 : decode cX1_behindPart 24 = .ok (.aload_n 0, 1) := by decide +kernel
theorem dX1_behindPart_25 : decode cX1_behindPart 25 = .ok (.iconst 0, 1) := by decide +kernel
theorem dX1_behindPart_26 : decode cX1_behindPart 26 = .ok (.aload_n 0, 1) := by decide +kernel
theorem dX1_behindPart_27 : decode cX1_behindPart 27 = .ok (.getfield 23, 3) := by decide +kernel
theorem dX1_behindPart_30 : decode cX1_behindPart 30 = .ok (.iconst 1, 1) := by decide +kernel
theorem dX1_behindPart_31 : decode cX1_behindPart 31 = .ok (.isub, 1) := by decide +kernel
theorem dX1_behindPart_32 : decode cX1_behindPart 32 = .ok (.invokestatic 91, 3) := by decide +kernel
theorem dX1_behindPart_35 : decode cX1_behindPart 35 = .ok (.putfield 23, 3) := by decide +kernel
theorem dX1_behindPart_38 : decode cX1_behindPart 38 = .ok (.aload_n 0, 1) := by decide +kernel
theorem dX1_behindPart_39 : decode cX1_behindPart 39 = .ok (.dup, 1) := by decide +kernel
theorem dX1_behindPart_40 : decode cX1_behindPart 40 = .ok (.getfield 27, 3) := by decide +kernel
theorem dX1_behindPart_43 : decode cX1_behindPart 43 = .ok (.iconst 1, 1) := by decide +kernel
theorem dX1_behindPart_44 : decode cX1_behindPart 44 = .ok (.isub, 1) := by decide +kernel
theorem dX1_behindPart_45 : decode cX1_behindPart 45 = .ok (.putfield 27, 3) := by decide +kernel
theorem dX1_behindPart_48 : decode cX1_behindPart 48 = .ok (.iconst 0, 1) := by decide +kernel
theorem dX1_behindPart_49 : decode cX1_behindPart 49 = .ok (.ireturn, 1) := by decide +kernel
theorem dX1_behindPart_50 : decode cX1_behindPart 50 = .ok (.aload_n 0, 1) := by decide +kernel
theorem dX1_behindPart_51 : decode cX1_behindPart 51 = .ok (.getfield 15, 3) := by decide +kernel
theorem dX1_behindPart_54 : decode cX1_behindPart 54 = .ok (.getfield 68, 3) := by decide +kernel
theorem dX1_behindPart_57 : decode cX1_behindPart 57 = .ok (.invokestatic 97, 3) := by decide +kernel
theorem dX1_behindPart_60 : decode cX1_behindPart 60 = .ok (.istore_n 1, 1) := by decide +kernel
theorem dX1_behindPart_61 : decode cX1_behindPart 61 = .ok (.iload_n 1, 1) := by decide +kernel
theorem dX1_behindPart_62 : decode cX1_behindPart 62 = .ok (.ifCond .eq 8, 3) := by decide +kernel
theorem dX1_behindPart_65 : decode cX1_behindPart 65 = .ok (.iload_n 1, 1) := by decide +kernel
theorem dX1_behindPart_66 : decode cX1_behindPart 66 = .ok (.iconst 3, 1) := by decide +kernel
theorem dX1_behindPart_67 : decode cX1_behindPart 67 = .ok (.if_icmp .ne 5, 3) := by decide +kernel
theorem dX1_behindPart_70 : decode cX1_behindPart 70 = .ok (.iconst 1, 1) := by decide +kernel
theorem dX1_behindPart_71 : decode cX1_behindPart 71 = .ok (.ireturn, 1) := by decide +kernel
theorem dX1_behindPart_72 : decode cX1_behindPart 72 = .ok (.aload_n 0, 1) := by decide +kernel
theorem dX1_behindPart_73 : decode cX1_behindPart 73 = .ok (.iload_n 1, 1) := by decide +kernel
theorem dX1_behindPart_74 : decode cX1_behindPart 74 = .ok (.iconst 4, 1) := by decide +kernel
theorem dX1_behindPart_75 : decode cX1_behindPart 75 = .ok (.if_icmp .ne 9, 3) := by decide +kernel
theorem dX1_behindPart_78 : decode cX1_behindPart 78 = .ok (.iload_n 1, 1) := by decide +kernel
theorem dX1_behindPart_79 : decode cX1_behindPart 79 = .ok (.iconst 1, 1) := by decide +kernel
theorem dX1_behindPart_80 : decode cX1_behindPart 80 = .ok (.iadd, 1) := by decide +kernel
theorem dX1_behindPart_81 : decode cX1_behindPart 81 = .ok (.goto 4, 3) := by decide +kernel
theorem dX1_behindPart_84 : decode cX1_behindPart 84 = .ok (.iload_n 1, 1) := by decide +kernel
theorem dX1_behindPart_85 : decode cX1_behindPart 85 = .ok (.invokevirtual 58, 3) := by decide +kernel
theorem dX1_behindPart_88 : decode cX1_behindPart 88 = .ok (.iload_n 1, 1) := by decide +kernel
theorem dX1_behindPart_89 : decode cX1_behindPart 89 = .ok (.iconst 4, 1) := by decide +kernel
theorem dX1_behindPart_90 : decode cX1_behindPart 90 = .ok (.if_icmp .ne 13, 3) := by decide +kernel
theorem dX1_behindPart_93 : decode cX1_behindPart 93 = .ok (.aload_n 0, 1) := by decide +kernel
theorem dX1_behindPart_94 : decode cX1_behindPart 94 = .ok (.invokevirtual 101, 3) := by decide +kernel
theorem dX1_behindPart_97 : decode cX1_behindPart 97 = .ok (.iload_n 1, 1) := by decide +kernel
theorem dX1_behindPart_98 : decode cX1_behindPart 98 = .ok (.if_icmp .ne 5, 3) := by decide +kernel
theorem dX1_behindPart_101 : decode cX1_behindPart 101 = .ok (.iconst 1, 1) := by decide +kernel
theorem dX1_behindPart_102 : decode cX1_behindPart 102 = .ok (.ireturn, 1) := by decide +kernel
theorem dX1_behindPart_103 : decode cX1_behindPart 103 = .ok (.aload_n 0, 1) := by decide +kernel
theorem dX1_behindPart_104 : decode cX1_behindPart 104 = .ok (.iconst 1, 1) := by decide +kernel
theorem dX1_behindPart_105 : decode cX1_behindPart 105 = .ok (.putfield 30, 3) := by decide +kernel
theorem dX1_behindPart_108 : decode cX1_behindPart 108 = .ok (.aload_n 0, 1) := by decide +kernel
theorem dX1_behindPart_109 : decode cX1_behindPart 109 = .ok (.iload_n 1, 1) := by decide +kernel
theorem dX1_behindPart_110 : decode cX1_behindPart 110 = .ok (.iconst 3, 1) := by decide +kernel
theorem dX1_behindPart_111 : decode cX1_behindPart 111 = .ok (.if_icmp .ge 7, 3) := by decide +kernel
theorem dX1_behindPart_114 : decode cX1_behindPart 114 = .ok (.iconst 1, 1) := by decide +kernel
theorem dX1_behindPart_115 : decode cX1_behindPart 115 = .ok (.goto 4, 3) := by decide +kernel
theorem dX1_behindPart_118 : decode cX1_behindPart 118 = .ok (.iconst 0, 1) := by decide +kernel
theorem dX1_behindPart_119 : decode cX1_behindPart 119 = .ok (.putfield 34, 3) := by decide +kernel
theorem dX1_behindPart_122 : decode cX1_behindPart 122 = .ok (.aload_n 0, 1) := by decide +kernel
theorem dX1_behindPart_123 : decode cX1_behindPart 123 = .ok (.invokevirtual 74, 3) := by decide +kernel
theorem dX1_behindPart_126 : decode cX1_behindPart 126 = .ok (.ireturn, 1) := by decide +kernel
theorem dX1_pushWaiting_0 : decode cX1_pushWaiting 0 = .ok (.aload_n 0, 1) := by decide +kernel
theorem dX1_pushWaiting_1 : decode cX1_pushWaiting 1 = .ok (.getfield 23, 3) := by decide +kernel
theorem dX1_pushWaiting_4 : decode cX1_pushWaiting 4 = .ok (.bipush 72, 2) := by decide +kernel
theorem dX1_pushWaiting_6 : decode cX1_pushWaiting 6 = .ok (.if_icmp .ge 23, 3) := by decide +kernel
theorem dX1_pushWaiting_9 : decode cX1_pushWaiting 9 = .ok (.aload_n 0, 1) := by decide +kernel
theorem dX1_pushWaiting_10 : decode cX1_pushWaiting 10 = .ok (.getfield 11, 3) := by decide +kernel
theorem dX1_pushWaiting_13 : decode cX1_pushWaiting 13 = .ok (.aload_n 0, 1) := by decide +kernel
theorem dX1_pushWaiting_14 : decode cX1_pushWaiting 14 = .ok (.getfield 23, 3) := by decide +kernel
theorem dX1_pushWaiting_17 : decode cX1_pushWaiting 17 = .ok (.iload_n 1, 1) := by decide +kernel
theorem dX1_pushWaiting_18 : decode cX1_pushWaiting 18 = .ok (.iastore, 1) := by decide +kernel
theorem dX1_pushWaiting_19 : decode cX1_pushWaiting 19 = .ok (.aload_n 0, 1) := by decide +kernel
theorem dX1_pushWaiting_20 : decode cX1_pushWaiting 20 = .ok (.dup, 1) := by decide +kernel
theorem dX1_pushWaiting_21 : decode cX1_pushWaiting 21 = .ok (.getfield 23, 3) := by decide +kernel
theorem dX1_pushWaiting_24 : decode cX1_pushWaiting 24 = .ok (.iconst 1, 1) := by decide +kernel
theorem dX1_pushWaiting_25 : decode cX1_pushWaiting 25 = .ok (.iadd, 1) := by decide +kernel
theorem dX1_pushWaiting_26 : decode cX1_pushWaiting 26 = .ok (.putfield 23, 3) := by decide +kernel
theorem dX1_pushWaiting_29 : decode cX1_pushWaiting 29 = .ok (.return_, 1) := by decide +kernel
theorem dX1_lastRank_0 : decode cX1_lastRank 0 = .ok (.aload_n 0, 1) := by decide +kernel
theorem dX1_lastRank_1 : decode cX1_lastRank 1 = .ok (.getfield 23, 3) := by decide +kernel
theorem dX1_lastRank_4 : decode cX1_lastRank 4 = .ok (.ifCond .le 29, 3) := by decide +kernel
theorem dX1_lastRank_7 : decode cX1_lastRank 7 = .ok (.aload_n 0, 1) := by decide +kernel
theorem dX1_lastRank_8 : decode cX1_lastRank 8 = .ok (.getfield 23, 3) := by decide +kernel
theorem dX1_lastRank_11 : decode cX1_lastRank 11 = .ok (.bipush 72, 2) := by decide +kernel
theorem dX1_lastRank_13 : decode cX1_lastRank 13 = .ok (.if_icmp .gt 20, 3) := by decide +kernel
theorem dX1_lastRank_16 : decode cX1_lastRank 16 = .ok (.aload_n 0, 1) := by decide +kernel
theorem dX1_lastRank_17 : decode cX1_lastRank 17 = .ok (.getfield 11, 3) := by decide +kernel
theorem dX1_lastRank_20 : decode cX1_lastRank 20 = .ok (.aload_n 0, 1) := by decide +kernel
theorem dX1_lastRank_21 : decode cX1_lastRank 21 = .ok (.getfield 23, 3) := by decide +kernel
theorem dX1_lastRank_24 : decode cX1_lastRank 24 = .ok (.iconst 1, 1) := by decide +kernel
theorem dX1_lastRank_25 : decode cX1_lastRank 25 = .ok (.isub, 1) := by decide +kernel
theorem dX1_lastRank_26 : decode cX1_lastRank 26 = .ok (.iaload, 1) := by decide +kernel
theorem dX1_lastRank_27 : decode cX1_lastRank 27 = .ok (.invokestatic 97, 3) := by decide +kernel
theorem dX1_lastRank_30 : decode cX1_lastRank 30 = .ok (.goto 4, 3) := by decide +kernel
theorem dX1_lastRank_33 : decode cX1_lastRank 33 = .ok (.iconst 0, 1) := by decide +kernel
theorem dX1_lastRank_34 : decode cX1_lastRank 34 = .ok (.ireturn, 1) := by decide +kernel
theorem dX1_settle_0 : decode cX1_settle 0 = .ok (.iconst 0, 1) := by decide +kernel
theorem dX1_settle_1 : decode cX1_settle 1 = .ok (.istore_n 2, 1) := by decide +kernel
theorem dX1_settle_2 : decode cX1_settle 2 = .ok (.iload_n 2, 1) := by decide +kernel
theorem dX1_settle_3 : decode cX1_settle 3 = .ok (.bipush 72, 2) := by decide +kernel
theorem dX1_settle_5 : decode cX1_settle 5 = .ok (.if_icmp .ge 47, 3) := by decide +kernel
theorem dX1_settle_8 : decode cX1_settle 8 = .ok (.aload_n 0, 1) := by decide +kernel
theorem dX1_settle_9 : decode cX1_settle 9 = .ok (.invokevirtual 101, 3) := by decide +kernel
theorem dX1_settle_12 : decode cX1_settle 12 = .ok (.iload_n 1, 1) := by decide +kernel
theorem dX1_settle_13 : decode cX1_settle 13 = .ok (.if_icmp .lt 39, 3) := by decide +kernel
theorem dX1_settle_16 : decode cX1_settle 16 = .ok (.aload_n 0, 1) := by decide +kernel
theorem dX1_settle_17 : decode cX1_settle 17 = .ok (.dup, 1) := by decide +kernel
theorem dX1_settle_18 : decode cX1_settle 18 = .ok (.getfield 23, 3) := by decide +kernel
theorem dX1_settle_21 : decode cX1_settle 21 = .ok (.iconst 1, 1) := by decide +kernel
theorem dX1_settle_22 : decode cX1_settle 22 = .ok (.isub, 1) := by decide +kernel
theorem dX1_settle_23 : decode cX1_settle 23 = .ok (.putfield 23, 3) := by decide +kernel
theorem dX1_settle_26 : decode cX1_settle 26 = .ok (.aload_n 0, 1) := by decide +kernel
theorem dX1_settle_27 : decode cX1_settle 27 = .ok (.getfield 19, 3) := by decide +kernel
theorem dX1_settle_30 : decode cX1_settle 30 = .ok (.sipush 10000, 3) := by decide +kernel
theorem dX1_settle_33 : decode cX1_settle 33 = .ok (.aload_n 0, 1) := by decide +kernel
theorem dX1_settle_34 : decode cX1_settle 34 = .ok (.getfield 11, 3) := by decide +kernel
theorem dX1_settle_37 : decode cX1_settle 37 = .ok (.aload_n 0, 1) := by decide +kernel
theorem dX1_settle_38 : decode cX1_settle 38 = .ok (.getfield 23, 3) := by decide +kernel
theorem dX1_settle_41 : decode cX1_settle 41 = .ok (.iaload, 1) := by decide +kernel
theorem dX1_settle_42 : decode cX1_settle 42 = .ok (.iadd, 1) := by decide +kernel
theorem dX1_settle_43 : decode cX1_settle 43 = .ok (.invokevirtual 85, 3) := by decide +kernel
theorem dX1_settle_46 : decode cX1_settle 46 = .ok (.iinc 2 1, 3) := by decide +kernel
theorem dX1_settle_49 : decode cX1_settle 49 = .ok (.goto (-47), 3) := by decide +kernel
theorem dX1_settle_52 : decode cX1_settle 52 = .ok (.return_, 1) := by decide +kernel
theorem dX1_rankOf_0 : decode cX1_rankOf 0 = .ok (.iload_n 0, 1) := by decide +kernel
theorem dX1_rankOf_1 : decode cX1_rankOf 1 = .ok (.tableswitch 78 20 32 #[69, 67, 71, 78, 78, 78, 78, 78, 78, 76, 76, 73, 73], 67) := by decide +kernel
theorem dX1_rankOf_68 : decode cX1_rankOf 68 = .ok (.iconst 1, 1) := by decide +kernel
theorem dX1_rankOf_69 : decode cX1_rankOf 69 = .ok (.ireturn, 1) := by decide +kernel
theorem dX1_rankOf_70 : decode cX1_rankOf 70 = .ok (.iconst 2, 1) := by decide +kernel
theorem dX1_rankOf_71 : decode cX1_rankOf 71 = .ok (.ireturn, 1) := by decide +kernel
theorem dX1_rankOf_72 : decode cX1_rankOf 72 = .ok (.iconst 3, 1) := by decide +kernel
theorem dX1_rankOf_73 : decode cX1_rankOf 73 = .ok (.ireturn, 1) := by decide +kernel
theorem dX1_rankOf_74 : decode cX1_rankOf 74 = .ok (.bipush 6, 2) := by decide +kernel
theorem dX1_rankOf_76 : decode cX1_rankOf 76 = .ok (.ireturn, 1) := by decide +kernel
theorem dX1_rankOf_77 : decode cX1_rankOf 77 = .ok (.iconst 5, 1) := by decide +kernel
theorem dX1_rankOf_78 : decode cX1_rankOf 78 = .ok (.ireturn, 1) := by decide +kernel
theorem dX1_rankOf_79 : decode cX1_rankOf 79 = .ok (.iload_n 0, 1) := by decide +kernel
theorem dX1_rankOf_80 : decode cX1_rankOf 80 = .ok (.bipush 23, 2) := by decide +kernel
theorem dX1_rankOf_82 : decode cX1_rankOf 82 = .ok (.if_icmp .lt 13, 3) := by decide +kernel
theorem dX1_rankOf_85 : decode cX1_rankOf 85 = .ok (.iload_n 0, 1) := by decide +kernel
theorem dX1_rankOf_86 : decode cX1_rankOf 86 = .ok (.bipush 28, 2) := by decide +kernel
theorem dX1_rankOf_88 : decode cX1_rankOf 88 = .ok (.if_icmp .gt 7, 3) := by decide +kernel
theorem dX1_rankOf_91 : decode cX1_rankOf 91 = .ok (.iconst 4, 1) := by decide +kernel
theorem dX1_rankOf_92 : decode cX1_rankOf 92 = .ok (.goto 4, 3) := by decide +kernel
theorem dX1_rankOf_95 : decode cX1_rankOf 95 = .ok (.iconst 0, 1) := by decide +kernel
theorem dX1_rankOf_96 : decode cX1_rankOf 96 = .ok (.ireturn, 1) := by decide +kernel
theorem dX2_init_0 : decode cX2_init 0 = .ok (.aload_n 0, 1) := by decide +kernel
theorem dX2_init_1 : decode cX2_init 1 = .ok (.invokespecial 5, 3) := by decide +kernel
theorem dX2_init_4 : decode cX2_init 4 = .ok (.aload_n 0, 1) := by decide +kernel
theorem dX2_init_5 : decode cX2_init 5 = .ok (.bipush 64, 2) := by decide +kernel
theorem dX2_init_7 : decode cX2_init 7 = .ok (.newarray .int, 2) := by decide +kernel
theorem dX2_init_9 : decode cX2_init 9 = .ok (.putfield 11, 3) := by decide +kernel
theorem dX2_init_12 : decode cX2_init 12 = .ok (.aload_n 0, 1) := by decide +kernel
theorem dX2_init_13 : decode cX2_init 13 = .ok (.iconst 3, 1) := by decide +kernel
theorem dX2_init_14 : decode cX2_init 14 = .ok (.newarray .int, 2) := by decide +kernel
theorem dX2_init_16 : decode cX2_init 16 = .ok (.putfield 17, 3) := by decide +kernel
theorem dX2_init_19 : decode cX2_init 19 = .ok (.aload_n 0, 1) := by decide +kernel
theorem dX2_init_20 : decode cX2_init 20 = .ok (.iconst 3, 1) := by decide +kernel
theorem dX2_init_21 : decode cX2_init 21 = .ok (.newarray .int, 2) := by decide +kernel
theorem dX2_init_23 : decode cX2_init 23 = .ok (.putfield 20, 3) := by decide +kernel
theorem dX2_init_26 : decode cX2_init 26 = .ok (.aload_n 0, 1) := by decide +kernel
theorem dX2_init_27 : decode cX2_init 27 = .ok (.bipush 7, 2) := by decide +kernel
theorem dX2_init_29 : decode cX2_init 29 = .ok (.newarray .long, 2) := by decide +kernel
theorem dX2_init_31 : decode cX2_init 31 = .ok (.putfield 23, 3) := by decide +kernel
theorem dX2_init_34 : decode cX2_init 34 = .ok (.aload_n 0, 1) := by decide +kernel
theorem dX2_init_35 : decode cX2_init 35 = .ok (.bipush 64, 2) := by decide +kernel
theorem dX2_init_37 : decode cX2_init 37 = .ok (.newarray .long, 2) := by decide +kernel
theorem dX2_init_39 : decode cX2_init 39 = .ok (.putfield 27, 3) := by decide +kernel
theorem dX2_init_42 : decode cX2_init 42 = .ok (.return_, 1) := by decide +kernel
theorem dX2_clear_0 : decode cX2_clear 0 = .ok (.iconst 0, 1) := by decide +kernel
theorem dX2_clear_1 : decode cX2_clear 1 = .ok (.istore_n 1, 1) := by decide +kernel
theorem dX2_clear_2 : decode cX2_clear 2 = .ok (.iload_n 1, 1) := by decide +kernel
theorem dX2_clear_3 : decode cX2_clear 3 = .ok (.iconst 3, 1) := by decide +kernel
theorem dX2_clear_4 : decode cX2_clear 4 = .ok (.if_icmp .ge 23, 3) := by decide +kernel
theorem dX2_clear_7 : decode cX2_clear 7 = .ok (.aload_n 0, 1) := by decide +kernel
theorem dX2_clear_8 : decode cX2_clear 8 = .ok (.getfield 17, 3) := by decide +kernel
theorem dX2_clear_11 : decode cX2_clear 11 = .ok (.iload_n 1, 1) := by decide +kernel
theorem dX2_clear_12 : decode cX2_clear 12 = .ok (.iconst (-1), 1) := by decide +kernel
theorem dX2_clear_13 : decode cX2_clear 13 = .ok (.iastore, 1) := by decide +kernel
theorem dX2_clear_14 : decode cX2_clear 14 = .ok (.aload_n 0, 1) := by decide +kernel
theorem dX2_clear_15 : decode cX2_clear 15 = .ok (.getfield 20, 3) := by decide +kernel
theorem dX2_clear_18 : decode cX2_clear 18 = .ok (.iload_n 1, 1) := by decide +kernel
theorem dX2_clear_19 : decode cX2_clear 19 = .ok (.iconst (-1), 1) := by decide +kernel
theorem dX2_clear_20 : decode cX2_clear 20 = .ok (.iastore, 1) := by decide +kernel
theorem dX2_clear_21 : decode cX2_clear 21 = .ok (.iinc 1 1, 3) := by decide +kernel
theorem dX2_clear_24 : decode cX2_clear 24 = .ok (.goto (-22), 3) := by decide +kernel
theorem dX2_clear_27 : decode cX2_clear 27 = .ok (.aload_n 0, 1) := by decide +kernel
theorem dX2_clear_28 : decode cX2_clear 28 = .ok (.iconst 0, 1) := by decide +kernel
theorem dX2_clear_29 : decode cX2_clear 29 = .ok (.putfield 30, 3) := by decide +kernel
theorem dX2_clear_32 : decode cX2_clear 32 = .ok (.aload_n 0, 1) := by decide +kernel
theorem dX2_clear_33 : decode cX2_clear 33 = .ok (.iconst 0, 1) := by decide +kernel
theorem dX2_clear_34 : decode cX2_clear 34 = .ok (.putfield 34, 3) := by decide +kernel
theorem dX2_clear_37 : decode cX2_clear 37 = .ok (.return_, 1) := by decide +kernel
theorem dX2_put_0 : decode cX2_put 0 = .ok (.aload_n 0, 1) := by decide +kernel
theorem dX2_put_1 : decode cX2_put 1 = .ok (.getfield 34, 3) := by decide +kernel
theorem dX2_put_4 : decode cX2_put 4 = .ok (.bipush 64, 2) := by decide +kernel
theorem dX2_put_6 : decode cX2_put 6 = .ok (.if_icmp .ge 23, 3) := by decide +kernel
theorem dX2_put_9 : decode cX2_put 9 = .ok (.aload_n 0, 1) := by decide +kernel
theorem dX2_put_10 : decode cX2_put 10 = .ok (.getfield 11, 3) := by decide +kernel
theorem dX2_put_13 : decode cX2_put 13 = .ok (.aload_n 0, 1) := by decide +kernel
theorem dX2_put_14 : decode cX2_put 14 = .ok (.getfield 34, 3) := by decide +kernel
theorem dX2_put_17 : decode cX2_put 17 = .ok (.iload_n 1, 1) := by decide +kernel
theorem dX2_put_18 : decode cX2_put 18 = .ok (.iastore, 1) := by decide +kernel
theorem dX2_put_19 : decode cX2_put 19 = .ok (.aload_n 0, 1) := by decide +kernel
theorem dX2_put_20 : decode cX2_put 20 = .ok (.dup, 1) := by decide +kernel
theorem dX2_put_21 : decode cX2_put 21 = .ok (.getfield 34, 3) := by decide +kernel
theorem dX2_put_24 : decode cX2_put 24 = .ok (.iconst 1, 1) := by decide +kernel
theorem dX2_put_25 : decode cX2_put 25 = .ok (.iadd, 1) := by decide +kernel
theorem dX2_put_26 : decode cX2_put 26 = .ok (.putfield 34, 3) := by decide +kernel
theorem dX2_put_29 : decode cX2_put 29 = .ok (.return_, 1) := by decide +kernel
theorem dX2_work_0 : decode cX2_work 0 = .ok (.iload_n 1, 1) := by decide +kernel
theorem dX2_work_1 : decode cX2_work 1 = .ok (.ifCond .lt 17, 3) := by decide +kernel
theorem dX2_work_4 : decode cX2_work 4 = .ok (.iload_n 1, 1) := by decide +kernel
theorem dX2_work_5 : decode cX2_work 5 = .ok (.iconst 3, 1) := by decide +kernel
theorem dX2_work_6 : decode cX2_work 6 = .ok (.if_icmp .ge 12, 3) := by decide +kernel
theorem dX2_work_9 : decode cX2_work 9 = .ok (.aload_n 0, 1) := by decide +kernel
theorem dX2_work_10 : decode cX2_work 10 = .ok (.getfield 17, 3) := by decide +kernel
theorem dX2_work_13 : decode cX2_work 13 = .ok (.iload_n 1, 1) := by decide +kernel
theorem dX2_work_14 : decode cX2_work 14 = .ok (.iaload, 1) := by decide +kernel
theorem dX2_work_15 : decode cX2_work 15 = .ok (.ifCond .ge 7, 3) := by decide +kernel
theorem dX2_work_18 : decode cX2_work 18 = .ok (.ldc2_w 37, 3) := by decide +kernel
theorem dX2_work_21 : decode cX2_work 21 = .ok (.lreturn, 1) := by decide +kernel
theorem dX2_work_22 : decode cX2_work 22 = .ok (.iconst 0, 1) := by decide +kernel
theorem dX2_work_23 : decode cX2_work 23 = .ok (.istore_n 2, 1) := by decide +kernel
theorem dX2_work_24 : decode cX2_work 24 = .ok (.aload_n 0, 1) := by decide +kernel
theorem dX2_work_25 : decode cX2_work 25 = .ok (.getfield 17, 3) := by decide +kernel
theorem dX2_work_28 : decode cX2_work 28 = .ok (.iload_n 1, 1) := by decide +kernel
theorem dX2_work_29 : decode cX2_work 29 = .ok (.iaload, 1) := by decide +kernel
theorem dX2_work_30 : decode cX2_work 30 = .ok (.istore_n 3, 1) := by decide +kernel
theorem dX2_work_31 : decode cX2_work 31 = .ok (.iload_n 3, 1) := by decide +kernel
theorem dX2_work_32 : decode cX2_work 32 = .ok (.aload_n 0, 1) := by decide +kernel
theorem dX2_work_33 : decode cX2_work 33 = .ok (.getfield 20, 3) := by decide +kernel
theorem dX2_work_36 : decode cX2_work 36 = .ok (.iload_n 1, 1) := by decide +kernel
theorem dX2_work_37 : decode cX2_work 37 = .ok (.iaload, 1) := by decide +kernel
theorem dX2_work_38 : decode cX2_work 38 = .ok (.if_icmp .ge 177, 3) := by decide +kernel
theorem dX2_work_41 : decode cX2_work 41 = .ok (.iload_n 3, 1) := by decide +kernel
theorem dX2_work_42 : decode cX2_work 42 = .ok (.bipush 64, 2) := by decide +kernel
theorem dX2_work_44 : decode cX2_work 44 = .ok (.if_icmp .ge 171, 3) := by decide +kernel
theorem dX2_work_47 : decode cX2_work 47 = .ok (.aload_n 0, 1) := by decide +kernel
theorem dX2_work_48 : decode cX2_work 48 = .ok (.getfield 11, 3) := by decide +kernel
theorem dX2_work_51 : decode cX2_work 51 = .ok (.iload_n 3, 1) := by decide +kernel
theorem dX2_work_52 : decode cX2_work 52 = .ok (.iaload, 1) := by decide +kernel
theorem dX2_work_53 : decode cX2_work 53 = .ok (.sipush 10000, 3) := by decide +kernel
theorem dX2_work_56 : decode cX2_work 56 = .ok (.isub, 1) := by decide +kernel
theorem dX2_work_57 : decode cX2_work 57 = .ok (.istore 4, 2) := by decide +kernel
theorem dX2_work_59 : decode cX2_work 59 = .ok (.iload 4, 2) := by decide +kernel
theorem dX2_work_61 : decode cX2_work 61 = .ok (.bipush 20, 2) := by decide +kernel
theorem dX2_work_63 : decode cX2_work 63 = .ok (.if_icmp .ge 7, 3) := by decide +kernel
theorem dX2_work_66 : decode cX2_work 66 = .ok (.iconst 0, 1) := by decide +kernel
theorem dX2_work_67 : decode cX2_work 67 = .ok (.goto 15, 3) := by decide +kernel
theorem dX2_work_70 : decode cX2_work 70 = .ok (.iload 4, 2) := by decide +kernel
theorem dX2_work_72 : decode cX2_work 72 = .ok (.bipush 22, 2) := by decide +kernel
theorem dX2_work_74 : decode cX2_work 74 = .ok (.if_icmp .ne 7, 3) := by decide +kernel
theorem dX2_work_77 : decode cX2_work 77 = .ok (.iconst 1, 1) := by decide +kernel
theorem dX2_work_78 : decode cX2_work 78 = .ok (.goto 4, 3) := by decide +kernel
theorem dX2_work_81 : decode cX2_work 81 = .ok (.iconst 2, 1) := by decide +kernel
theorem dX2_work_82 : decode cX2_work 82 = .ok (.istore 5, 2) := by decide +kernel
theorem dX2_work_84 : decode cX2_work 84 = .ok (.iload_n 2, 1) := by decide +kernel
theorem dX2_work_85 : decode cX2_work 85 = .ok (.iload 5, 2) := by decide +kernel
theorem dX2_work_87 : decode cX2_work 87 = .ok (.if_icmp .lt 12, 3) := by decide +kernel
theorem dX2_work_90 : decode cX2_work 90 = .ok (.iload_n 2, 1) := by decide +kernel
theorem dX2_work_91 : decode cX2_work 91 = .ok (.iload 5, 2) := by decide +kernel
theorem dX2_work_93 : decode cX2_work 93 = .ok (.isub, 1) := by decide +kernel
theorem dX2_work_94 : decode cX2_work 94 = .ok (.bipush 64, 2) := by decide +kernel
theorem dX2_work_96 : decode cX2_work 96 = .ok (.if_icmp .lt 7, 3) := by decide +kernel
theorem dX2_work_99 : decode cX2_work 99 = .ok (.ldc2_w 37, 3) := by decide +kernel
theorem dX2_work_102 : decode cX2_work 102 = .ok (.lreturn, 1) := by decide +kernel
theorem dX2_work_103 : decode cX2_work 103 = .ok (.iload_n 2, 1) := by decide +kernel
theorem dX2_work_104 : decode cX2_work 104 = .ok (.iload 5, 2) := by decide +kernel
theorem dX2_work_106 : decode cX2_work 106 = .ok (.isub, 1) := by decide +kernel
theorem dX2_work_107 : decode cX2_work 107 = .ok (.istore_n 2, 1) := by decide +kernel
theorem dX2_work_108 : decode cX2_work 108 = .ok (.iload 5, 2) := by decide +kernel
theorem dX2_work_110 : decode cX2_work 110 = .ok (.ifCond .ne 18, 3) := by decide +kernel
theorem dX2_work_113 : decode cX2_work 113 = .ok (.aload_n 0, 1) := by decide +kernel
theorem dX2_work_114 : decode cX2_work 114 = .ok (.aload_n 0, 1) := by decide +kernel
theorem dX2_work_115 : decode cX2_work 115 = .ok (.getfield 11, 3) := by decide +kernel
theorem dX2_work_118 : decode cX2_work 118 = .ok (.iload_n 3, 1) := by decide +kernel
theorem dX2_work_119 : decode cX2_work 119 = .ok (.iaload, 1) := by decide +kernel
theorem dX2_work_120 : decode cX2_work 120 = .ok (.invokevirtual 41, 3) := by decide +kernel
theorem dX2_work_123 : decode cX2_work 123 = .ok (.lstore 6, 2) := by decide +kernel
theorem dX2_work_125 : decode cX2_work 125 = .ok (.goto 51, 3) := by decide +kernel
theorem dX2_work_128 : decode cX2_work 128 = .ok (.iload 5, 2) := by decide +kernel
theorem dX2_work_130 : decode cX2_work 130 = .ok (.iconst 1, 1) := by decide +kernel
theorem dX2_work_131 : decode cX2_work 131 = .ok (.if_icmp .ne 24, 3) := by decide +kernel
theorem dX2_work_134 : decode cX2_work 134 = .ok (.aload_n 0, 1) := by decide +kernel
theorem dX2_work_135 : decode cX2_work 135 = .ok (.getfield 27, 3) := by decide +kernel
theorem dX2_work_138 : decode cX2_work 138 = .ok (.iload_n 2, 1) := by decide +kernel
theorem dX2_work_139 : decode cX2_work 139 = .ok (.laload, 1) := by decide +kernel
theorem dX2_work_140 : decode cX2_work 140 = .ok (.lconst 0, 1) := by decide +kernel
theorem dX2_work_141 : decode cX2_work 141 = .ok (.lcmp, 1) := by decide +kernel
theorem dX2_work_142 : decode cX2_work 142 = .ok (.ifCond .ne 7, 3) := by decide +kernel
theorem dX2_work_145 : decode cX2_work 145 = .ok (.lconst 1, 1) := by decide +kernel
theorem dX2_work_146 : decode cX2_work 146 = .ok (.goto 4, 3) := by decide +kernel
theorem dX2_work_149 : decode cX2_work 149 = .ok (.lconst 0, 1) := by decide +kernel
theorem dX2_work_150 : decode cX2_work 150 = .ok (.lstore 6, 2) := by decide +kernel
theorem dX2_work_152 : decode cX2_work 152 = .ok (.goto 24, 3) := by decide +kernel
theorem dX2_work_155 : decode cX2_work 155 = .ok (.iload 4, 2) := by decide +kernel
theorem dX2_work_157 : decode cX2_work 157 = .ok (.aload_n 0, 1) := by decide +kernel
theorem dX2_work_158 : decode cX2_work 158 = .ok (.getfield 27, 3) := by decide +kernel
theorem dX2_work_161 : decode cX2_work 161 = .ok (.iload_n 2, 1) := by decide +kernel
theorem dX2_work_162 : decode cX2_work 162 = .ok (.laload, 1) := by decide +kernel
theorem dX2_work_163 : decode cX2_work 163 = .ok (.aload_n 0, 1) := by decide +kernel
theorem dX2_work_164 : decode cX2_work 164 = .ok (.getfield 27, 3) := by decide +kernel
theorem dX2_work_167 : decode cX2_work 167 = .ok (.iload_n 2, 1) := by decide +kernel
theorem dX2_work_168 : decode cX2_work 168 = .ok (.iconst 1, 1) := by decide +kernel
theorem dX2_work_169 : decode cX2_work 169 = .ok (.iadd, 1) := by decide +kernel
theorem dX2_work_170 : decode cX2_work 170 = .ok (.laload, 1) := by decide +kernel
theorem dX2_work_171 : decode cX2_work 171 = .ok (.invokestatic 45, 3) := by decide +kernel
theorem dX2_work_174 : decode cX2_work 174 = .ok (.lstore 6, 2) := by decide +kernel
theorem dX2_work_176 : decode cX2_work 176 = .ok (.lload 6, 2) := by decide +kernel
theorem dX2_work_178 : decode cX2_work 178 = .ok (.ldc2_w 49, 3) := by decide +kernel
theorem dX2_work_181 : decode cX2_work 181 = .ok (.lcmp, 1) := by decide +kernel
theorem dX2_work_182 : decode cX2_work 182 = .ok (.ifCond .gt 12, 3) := by decide +kernel
theorem dX2_work_185 : decode cX2_work 185 = .ok (.lload 6, 2) := by decide +kernel
theorem dX2_work_187 : decode cX2_work 187 = .ok (.ldc2_w 51, 3) := by decide +kernel
theorem dX2_work_190 : decode cX2_work 190 = .ok (.lcmp, 1) := by decide +kernel
theorem dX2_work_191 : decode cX2_work 191 = .ok (.ifCond .ge 7, 3) := by decide +kernel
theorem dX2_work_194 : decode cX2_work 194 = .ok (.ldc2_w 37, 3) := by decide +kernel
theorem dX2_work_197 : decode cX2_work 197 = .ok (.lreturn, 1) := by decide +kernel
theorem dX2_work_198 : decode cX2_work 198 = .ok (.aload_n 0, 1) := by decide +kernel
theorem dX2_work_199 : decode cX2_work 199 = .ok (.getfield 27, 3) := by decide +kernel
theorem dX2_work_202 : decode cX2_work 202 = .ok (.iload_n 2, 1) := by decide +kernel
theorem dX2_work_203 : decode cX2_work 203 = .ok (.lload 6, 2) := by decide +kernel
theorem dX2_work_205 : decode cX2_work 205 = .ok (.lastore, 1) := by decide +kernel
theorem dX2_work_206 : decode cX2_work 206 = .ok (.iinc 2 1, 3) := by decide +kernel
theorem dX2_work_209 : decode cX2_work 209 = .ok (.iinc 3 1, 3) := by decide +kernel
theorem dX2_work_212 : decode cX2_work 212 = .ok (.goto (-181), 3) := by decide +kernel
theorem dX2_work_215 : decode cX2_work 215 = .ok (.iload_n 2, 1) := by decide +kernel
theorem dX2_work_216 : decode cX2_work 216 = .ok (.iconst 1, 1) := by decide +kernel
theorem dX2_work_217 : decode cX2_work 217 = .ok (.if_icmp .ne 12, 3) := by decide +kernel
theorem dX2_work_220 : decode cX2_work 220 = .ok (.aload_n 0, 1) := by decide +kernel
theorem dX2_work_221 : decode cX2_work 221 = .ok (.getfield 27, 3) := by decide +kernel
theorem dX2_work_224 : decode cX2_work 224 = .ok (.iconst 0, 1) := by decide +kernel
theorem dX2_work_225 : decode cX2_work 225 = .ok (.laload, 1) := by decide +kernel
theorem dX2_work_226 : decode cX2_work 226 = .ok (.goto 6, 3) := by decide +kernel
theorem dX2_work_229 : decode cX2_work 229 = .ok (.ldc2_w 37, 3) := by decide +kernel
theorem dX2_work_232 : decode cX2_work 232 = .ok (.lreturn, 1) := by decide +kernel
theorem dX2_plainValue_0 : decode cX2_plainValue 0 = .ok (.iload_n 1, 1) := by decide +kernel
theorem dX2_plainValue_1 : decode cX2_plainValue 1 = .ok (.sipush 10000, 3) := by decide +kernel
theorem dX2_plainValue_4 : decode cX2_plainValue 4 = .ok (.if_icmp .ge 6, 3) := by decide +kernel
theorem dX2_plainValue_7 : decode cX2_plainValue 7 = .ok (.iload_n 1, 1) := by decide +kernel
theorem dX2_plainValue_8 : decode cX2_plainValue 8 = .ok (.i2l, 1) := by decide +kernel
theorem dX2_plainValue_9 : decode cX2_plainValue 9 = .ok (.lreturn, 1) := by decide +kernel
theorem dX2_plainValue_10 : decode cX2_plainValue 10 = .ok (.iload_n 1, 1) := by decide +kernel
theorem dX2_plainValue_11 : decode cX2_plainValue 11 = .ok (.sipush 10000, 3) := by decide +kernel
theorem dX2_plainValue_14 : decode cX2_plainValue 14 = .ok (.isub, 1) := by decide +kernel
theorem dX2_plainValue_15 : decode cX2_plainValue 15 = .ok (.bipush 13, 2) := by decide +kernel
theorem dX2_plainValue_17 : decode cX2_plainValue 17 = .ok (.isub, 1) := by decide +kernel
theorem dX2_plainValue_18 : decode cX2_plainValue 18 = .ok (.istore_n 2, 1) := by decide +kernel
theorem dX2_plainValue_19 : decode cX2_plainValue 19 = .ok (.iload_n 2, 1) := by decide +kernel
theorem dX2_plainValue_20 : decode cX2_plainValue 20 = .ok (.ifCond .lt 21, 3) := by decide +kernel
theorem dX2_plainValue_23 : decode cX2_plainValue 23 = .ok (.iload_n 2, 1) := by decide +kernel
theorem dX2_plainValue_24 : decode cX2_plainValue 24 = .ok (.aload_n 0, 1) := by decide +kernel
theorem dX2_plainValue_25 : decode cX2_plainValue 25 = .ok (.getfield 23, 3) := by decide +kernel
theorem dX2_plainValue_28 : decode cX2_plainValue 28 = .ok (.arraylength, 1) := by decide +kernel
theorem dX2_plainValue_29 : decode cX2_plainValue 29 = .ok (.if_icmp .ge 12, 3) := by decide +kernel
theorem dX2_plainValue_32 : decode cX2_plainValue 32 = .ok (.aload_n 0, 1) := by decide +kernel
theorem dX2_plainValue_33 : decode cX2_plainValue 33 = .ok (.getfield 23, 3) := by decide +kernel
theorem dX2_plainValue_36 : decode cX2_plainValue 36 = .ok (.iload_n 2, 1) := by decide +kernel
theorem dX2_plainValue_37 : decode cX2_plainValue 37 = .ok (.laload, 1) := by decide +kernel
theorem dX2_plainValue_38 : decode cX2_plainValue 38 = .ok (.goto 6, 3) := by decide +kernel
theorem dX2_plainValue_41 : decode cX2_plainValue 41 = .ok (.ldc2_w 37, 3) := by decide +kernel
theorem dX2_plainValue_44 : decode cX2_plainValue 44 = .ok (.lreturn, 1) := by decide +kernel
theorem dX2_joined_0 : decode cX2_joined 0 = .ok (.iload_n 0, 1) := by decide +kernel
theorem dX2_joined_1 : decode cX2_joined 1 = .ok (.tableswitch 254 20 32 #[67, 85, 254, 103, 115, 127, 139, 151, 163, 175, 179, 199, 183], 67) := by decide +kernel
theorem dX2_joined_68 : decode cX2_joined 68 = .ok (.lload_n 1, 1) := by decide +kernel
theorem dX2_joined_69 : decode cX2_joined 69 = .ok (.lconst 0, 1) := by decide +kernel
theorem dX2_joined_70 : decode cX2_joined 70 = .ok (.lcmp, 1) := by decide +kernel
theorem dX2_joined_71 : decode cX2_joined 71 = .ok (.ifCond .eq 13, 3) := by decide +kernel
theorem dX2_joined_74 : decode cX2_joined 74 = .ok (.lload_n 3, 1) := by decide +kernel
theorem dX2_joined_75 : decode cX2_joined 75 = .ok (.lconst 0, 1) := by decide +kernel
theorem dX2_joined_76 : decode cX2_joined 76 = .ok (.lcmp, 1) := by decide +kernel
theorem dX2_joined_77 : decode cX2_joined 77 = .ok (.ifCond .eq 7, 3) := by decide +kernel
theorem dX2_joined_80 : decode cX2_joined 80 = .ok (.lconst 1, 1) := by decide +kernel
theorem dX2_joined_81 : decode cX2_joined 81 = .ok (.goto 4, 3) := by decide +kernel
theorem dX2_joined_84 : decode cX2_joined 84 = .ok (.lconst 0, 1) := by decide +kernel
theorem dX2_joined_85 : decode cX2_joined 85 = .ok (.lreturn, 1) := by decide +kernel
theorem dX2_joined_86 : decode cX2_joined 86 = .ok (.lload_n 1, 1) := by decide +kernel
theorem dX2_joined_87 : decode cX2_joined 87 = .ok (.lconst 0, 1) := by decide +kernel
theorem dX2_joined_88 : decode cX2_joined 88 = .ok (.lcmp, 1) := by decide +kernel
theorem dX2_joined_89 : decode cX2_joined 89 = .ok (.ifCond .ne 9, 3) := by decide +kernel
theorem dX2_joined_92 : decode cX2_joined 92 = .ok (.lload_n 3, 1) := by decide +kernel
theorem dX2_joined_93 : decode cX2_joined 93 = .ok (.lconst 0, 1) := by decide +kernel
theorem dX2_joined_94 : decode cX2_joined 94 = .ok (.lcmp, 1) := by decide +kernel
theorem dX2_joined_95 : decode cX2_joined 95 = .ok (.ifCond .eq 7, 3) := by decide +kernel
theorem dX2_joined_98 : decode cX2_joined 98 = .ok (.lconst 1, 1) := by decide +kernel
theorem dX2_joined_99 : decode cX2_joined 99 = .ok (.goto 4, 3) := by decide +kernel
theorem dX2_joined_102 : decode cX2_joined 102 = .ok (.lconst 0, 1) := by decide +kernel
theorem dX2_joined_103 : decode cX2_joined 103 = .ok (.lreturn, 1) := by decide +kernel
theorem dX2_joined_104 : decode cX2_joined 104 = .ok (.lload_n 1, 1) := by decide +kernel
theorem dX2_joined_105 : decode cX2_joined 105 = .ok (.lload_n 3, 1) := by decide +kernel
theorem dX2_joined_106 : decode cX2_joined 106 = .ok (.lcmp, 1) := by decide +kernel
theorem dX2_joined_107 : decode cX2_joined 107 = .ok (.ifCond .ge 7, 3) := by decide +kernel
theorem dX2_joined_110 : decode cX2_joined 110 = .ok (.lconst 1, 1) := by decide +kernel
theorem dX2_joined_111 : decode cX2_joined 111 = .ok (.goto 4, 3) := by decide +kernel
theorem dX2_joined_114 : decode cX2_joined 114 = .ok (.lconst 0, 1) := by decide +kernel
theorem dX2_joined_115 : decode cX2_joined 115 = .ok (.lreturn, 1) := by decide +kernel
theorem dX2_joined_116 : decode cX2_joined 116 = .ok (.lload_n 1, 1) := by decide +kernel
theorem dX2_joined_117 : decode cX2_joined 117 = .ok (.lload_n 3, 1) := by decide +kernel
theorem dX2_joined_118 : decode cX2_joined 118 = .ok (.lcmp, 1) := by decide +kernel
theorem dX2_joined_119 : decode cX2_joined 119 = .ok (.ifCond .gt 7, 3) := by decide +kernel
theorem dX2_joined_122 : decode cX2_joined 122 = .ok (.lconst 1, 1) := by decide +kernel
theorem dX2_joined_123 : decode cX2_joined 123 = .ok (.goto 4, 3) := by decide +kernel
theorem dX2_joined_126 : decode cX2_joined 126 = .ok (.lconst 0, 1) := by decide +kernel
theorem dX2_joined_127 : decode cX2_joined 127 = .ok (.lreturn, 1) := by decide +kernel
theorem dX2_joined_128 : decode cX2_joined 128 = .ok (.lload_n 1, 1) := by decide +kernel
theorem dX2_joined_129 : decode cX2_joined 129 = .ok (.lload_n 3, 1) := by decide +kernel
theorem dX2_joined_130 : decode cX2_joined 130 = .ok (.lcmp, 1) := by decide +kernel
theorem dX2_joined_131 : decode cX2_joined 131 = .ok (.ifCond .ne 7, 3) := by decide +kernel
theorem dX2_joined_134 : decode cX2_joined 134 = .ok (.lconst 1, 1) := by decide +kernel
theorem dX2_joined_135 : decode cX2_joined 135 = .ok (.goto 4, 3) := by decide +kernel
theorem dX2_joined_138 : decode cX2_joined 138 = .ok (.lconst 0, 1) := by decide +kernel
theorem dX2_joined_139 : decode cX2_joined 139 = .ok (.lreturn, 1) := by decide +kernel
theorem dX2_joined_140 : decode cX2_joined 140 = .ok (.lload_n 1, 1) := by decide +kernel
theorem dX2_joined_141 : decode cX2_joined 141 = .ok (.lload_n 3, 1) := by decide +kernel
theorem dX2_joined_142 : decode cX2_joined 142 = .ok (.lcmp, 1) := by decide +kernel
theorem dX2_joined_143 : decode cX2_joined 143 = .ok (.ifCond .eq 7, 3) := by decide +kernel
theorem dX2_joined_146 : decode cX2_joined 146 = .ok (.lconst 1, 1) := by decide +kernel
theorem dX2_joined_147 : decode cX2_joined 147 = .ok (.goto 4, 3) := by decide +kernel
theorem dX2_joined_150 : decode cX2_joined 150 = .ok (.lconst 0, 1) := by decide +kernel
theorem dX2_joined_151 : decode cX2_joined 151 = .ok (.lreturn, 1) := by decide +kernel
theorem dX2_joined_152 : decode cX2_joined 152 = .ok (.lload_n 1, 1) := by decide +kernel
theorem dX2_joined_153 : decode cX2_joined 153 = .ok (.lload_n 3, 1) := by decide +kernel
theorem dX2_joined_154 : decode cX2_joined 154 = .ok (.lcmp, 1) := by decide +kernel
theorem dX2_joined_155 : decode cX2_joined 155 = .ok (.ifCond .lt 7, 3) := by decide +kernel
theorem dX2_joined_158 : decode cX2_joined 158 = .ok (.lconst 1, 1) := by decide +kernel
theorem dX2_joined_159 : decode cX2_joined 159 = .ok (.goto 4, 3) := by decide +kernel
theorem dX2_joined_162 : decode cX2_joined 162 = .ok (.lconst 0, 1) := by decide +kernel
theorem dX2_joined_163 : decode cX2_joined 163 = .ok (.lreturn, 1) := by decide +kernel
theorem dX2_joined_164 : decode cX2_joined 164 = .ok (.lload_n 1, 1) := by decide +kernel
theorem dX2_joined_165 : decode cX2_joined 165 = .ok (.lload_n 3, 1) := by decide +kernel
theorem dX2_joined_166 : decode cX2_joined 166 = .ok (.lcmp, 1) := by decide +kernel
theorem dX2_joined_167 : decode cX2_joined 167 = .ok (.ifCond .le 7, 3) := by decide +kernel
theorem dX2_joined_170 : decode cX2_joined 170 = .ok (.lconst 1, 1) := by decide +kernel
theorem dX2_joined_171 : decode cX2_joined 171 = .ok (.goto 4, 3) := by decide +kernel
theorem dX2_joined_174 : decode cX2_joined 174 = .ok (.lconst 0, 1) := by decide +kernel
theorem dX2_joined_175 : decode cX2_joined 175 = .ok (.lreturn, 1) := by decide +kernel
theorem dX2_joined_176 : decode cX2_joined 176 = .ok (.lload_n 1, 1) := by decide +kernel
theorem dX2_joined_177 : decode cX2_joined 177 = .ok (.lload_n 3, 1) := by decide +kernel
theorem dX2_joined_178 : decode cX2_joined 178 = .ok (.ladd, 1) := by decide +kernel
theorem dX2_joined_179 : decode cX2_joined 179 = .ok (.lreturn, 1) := by decide +kernel
theorem dX2_joined_180 : decode cX2_joined 180 = .ok (.lload_n 1, 1) := by decide +kernel
theorem dX2_joined_181 : decode cX2_joined 181 = .ok (.lload_n 3, 1) := by decide +kernel
theorem dX2_joined_182 : decode cX2_joined 182 = .ok (.lsub, 1) := by decide +kernel
theorem dX2_joined_183 : decode cX2_joined 183 = .ok (.lreturn, 1) := by decide +kernel
theorem dX2_joined_184 : decode cX2_joined 184 = .ok (.lload_n 3, 1) := by decide +kernel
theorem dX2_joined_185 : decode cX2_joined 185 = .ok (.lconst 0, 1) := by decide +kernel
theorem dX2_joined_186 : decode cX2_joined 186 = .ok (.lcmp, 1) := by decide +kernel
theorem dX2_joined_187 : decode cX2_joined 187 = .ok (.ifCond .ne 9, 3) := by decide +kernel
theorem dX2_joined_190 : decode cX2_joined 190 = .ok (.ldc2_w 37, 3) := by decide +kernel
theorem dX2_joined_193 : decode cX2_joined 193 = .ok (.goto 6, 3) := by decide +kernel
theorem dX2_joined_196 : decode cX2_joined 196 = .ok (.lload_n 1, 1) := by decide +kernel
theorem dX2_joined_197 : decode cX2_joined 197 = .ok (.lload_n 3, 1) := by decide +kernel
theorem dX2_joined_198 : decode cX2_joined 198 = .ok (.ldiv, 1) := by decide +kernel
theorem dX2_joined_199 : decode cX2_joined 199 = .ok (.lreturn, 1) := by decide +kernel
theorem dX2_joined_200 : decode cX2_joined 200 = .ok (.lload_n 1, 1) := by decide +kernel
theorem dX2_joined_201 : decode cX2_joined 201 = .ok (.lconst 0, 1) := by decide +kernel
theorem dX2_joined_202 : decode cX2_joined 202 = .ok (.lcmp, 1) := by decide +kernel
theorem dX2_joined_203 : decode cX2_joined 203 = .ok (.ifCond .ne 9, 3) := by decide +kernel
theorem dX2_joined_206 : decode cX2_joined 206 = .ok (.ldc2_w 49, 3) := by decide +kernel
theorem dX2_joined_209 : decode cX2_joined 209 = .ok (.goto 19, 3) := by decide +kernel
theorem dX2_joined_212 : decode cX2_joined 212 = .ok (.ldc2_w 49, 3) := by decide +kernel
theorem dX2_joined_215 : decode cX2_joined 215 = .ok (.lload_n 1, 1) := by decide +kernel
theorem dX2_joined_216 : decode cX2_joined 216 = .ok (.lconst 0, 1) := by decide +kernel
theorem dX2_joined_217 : decode cX2_joined 217 = .ok (.lcmp, 1) := by decide +kernel
theorem dX2_joined_218 : decode cX2_joined 218 = .ok (.ifCond .ge 8, 3) := by decide +kernel
theorem dX2_joined_221 : decode cX2_joined 221 = .ok (.lload_n 1, 1) := by decide +kernel
theorem dX2_joined_222 : decode cX2_joined 222 = .ok (.lneg, 1) := by decide +kernel
theorem dX2_joined_223 : decode cX2_joined 223 = .ok (.goto 4, 3) := by decide +kernel
theorem dX2_joined_226 : decode cX2_joined 226 = .ok (.lload_n 1, 1) := by decide +kernel
theorem dX2_joined_227 : decode cX2_joined 227 = .ok (.ldiv, 1) := by decide +kernel
theorem dX2_joined_228 : decode cX2_joined 228 = .ok (.lstore 5, 2) := by decide +kernel
theorem dX2_joined_230 : decode cX2_joined 230 = .ok (.lload_n 3, 1) := by decide +kernel
theorem dX2_joined_231 : decode cX2_joined 231 = .ok (.lload 5, 2) := by decide +kernel
theorem dX2_joined_233 : decode cX2_joined 233 = .ok (.lcmp, 1) := by decide +kernel
theorem dX2_joined_234 : decode cX2_joined 234 = .ok (.ifCond .gt 11, 3) := by decide +kernel
theorem dX2_joined_237 : decode cX2_joined 237 = .ok (.lload_n 3, 1) := by decide +kernel
theorem dX2_joined_238 : decode cX2_joined 238 = .ok (.lload 5, 2) := by decide +kernel
theorem dX2_joined_240 : decode cX2_joined 240 = .ok (.lneg, 1) := by decide +kernel
theorem dX2_joined_241 : decode cX2_joined 241 = .ok (.lcmp, 1) := by decide +kernel
theorem dX2_joined_242 : decode cX2_joined 242 = .ok (.ifCond .ge 9, 3) := by decide +kernel
theorem dX2_joined_245 : decode cX2_joined 245 = .ok (.ldc2_w 37, 3) := by decide +kernel
theorem dX2_joined_248 : decode cX2_joined 248 = .ok (.goto 6, 3) := by decide +kernel
theorem dX2_joined_251 : decode cX2_joined 251 = .ok (.lload_n 1, 1) := by decide +kernel
theorem dX2_joined_252 : decode cX2_joined 252 = .ok (.lload_n 3, 1) := by decide +kernel
theorem dX2_joined_253 : decode cX2_joined 253 = .ok (.lmul, 1) := by decide +kernel
theorem dX2_joined_254 : decode cX2_joined 254 = .ok (.lreturn, 1) := by decide +kernel
theorem dX2_joined_255 : decode cX2_joined 255 = .ok (.ldc2_w 37, 3) := by decide +kernel
theorem dX2_joined_258 : decode cX2_joined 258 = .ok (.lreturn, 1) := by decide +kernel
theorem dX3_init_0 : decode cX3_init 0 = .ok (.aload_n 0, 1) := by decide +kernel
theorem dX3_init_1 : decode cX3_init 1 = .ok (.invokespecial 3, 3) := by decide +kernel
theorem dX3_init_4 : decode cX3_init 4 = .ok (.aload_n 0, 1) := by decide +kernel
theorem dX3_init_5 : decode cX3_init 5 = .ok (.bipush 12, 2) := by decide +kernel
theorem dX3_init_7 : decode cX3_init 7 = .ok (.newarray .int, 2) := by decide +kernel
theorem dX3_init_9 : decode cX3_init 9 = .ok (.putfield 9, 3) := by decide +kernel
theorem dX3_init_12 : decode cX3_init 12 = .ok (.return_, 1) := by decide +kernel
theorem dX3_gain_0 : decode cX3_gain 0 = .ok (.iload_n 3, 1) := by decide +kernel
theorem dX3_gain_1 : decode cX3_gain 1 = .ok (.iload_n 2, 1) := by decide +kernel
theorem dX3_gain_2 : decode cX3_gain 2 = .ok (.invokestatic 15, 3) := by decide +kernel
theorem dX3_gain_5 : decode cX3_gain 5 = .ok (.iconst 2, 1) := by decide +kernel
theorem dX3_gain_6 : decode cX3_gain 6 = .ok (.idiv, 1) := by decide +kernel
theorem dX3_gain_7 : decode cX3_gain 7 = .ok (.invokestatic 21, 3) := by decide +kernel
theorem dX3_gain_10 : decode cX3_gain 10 = .ok (.istore 4, 2) := by decide +kernel
theorem dX3_gain_12 : decode cX3_gain 12 = .ok (.iload_n 2, 1) := by decide +kernel
theorem dX3_gain_13 : decode cX3_gain 13 = .ok (.istore 5, 2) := by decide +kernel
theorem dX3_gain_15 : decode cX3_gain 15 = .ok (.iconst 0, 1) := by decide +kernel
theorem dX3_gain_16 : decode cX3_gain 16 = .ok (.istore 6, 2) := by decide +kernel
theorem dX3_gain_18 : decode cX3_gain 18 = .ok (.iconst 0, 1) := by decide +kernel
theorem dX3_gain_19 : decode cX3_gain 19 = .ok (.istore 7, 2) := by decide +kernel
theorem dX3_gain_21 : decode cX3_gain 21 = .ok (.iload 7, 2) := by decide +kernel
theorem dX3_gain_23 : decode cX3_gain 23 = .ok (.iconst 2, 1) := by decide +kernel
theorem dX3_gain_24 : decode cX3_gain 24 = .ok (.iload 4, 2) := by decide +kernel
theorem dX3_gain_26 : decode cX3_gain 26 = .ok (.imul, 1) := by decide +kernel
theorem dX3_gain_27 : decode cX3_gain 27 = .ok (.if_icmp .ge 46, 3) := by decide +kernel
theorem dX3_gain_30 : decode cX3_gain 30 = .ok (.aload_n 1, 1) := by decide +kernel
theorem dX3_gain_31 : decode cX3_gain 31 = .ok (.iload 5, 2) := by decide +kernel
theorem dX3_gain_33 : decode cX3_gain 33 = .ok (.invokestatic 27, 3) := by decide +kernel
theorem dX3_gain_36 : decode cX3_gain 36 = .ok (.istore 8, 2) := by decide +kernel
theorem dX3_gain_38 : decode cX3_gain 38 = .ok (.iload 8, 2) := by decide +kernel
theorem dX3_gain_40 : decode cX3_gain 40 = .ok (.iconst (-1), 1) := by decide +kernel
theorem dX3_gain_41 : decode cX3_gain 41 = .ok (.if_icmp .ne 6, 3) := by decide +kernel
theorem dX3_gain_44 : decode cX3_gain 44 = .ok (.goto 29, 3) := by decide +kernel
theorem dX3_gain_47 : decode cX3_gain 47 = .ok (.iload 6, 2) := by decide +kernel
theorem dX3_gain_49 : decode cX3_gain 49 = .ok (.aload_n 1, 1) := by decide +kernel
theorem dX3_gain_50 : decode cX3_gain 50 = .ok (.iload 8, 2) := by decide +kernel
theorem dX3_gain_52 : decode cX3_gain 52 = .ok (.iaload, 1) := by decide +kernel
theorem dX3_gain_53 : decode cX3_gain 53 = .ok (.iadd, 1) := by decide +kernel
theorem dX3_gain_54 : decode cX3_gain 54 = .ok (.istore 6, 2) := by decide +kernel
theorem dX3_gain_56 : decode cX3_gain 56 = .ok (.iload 5, 2) := by decide +kernel
theorem dX3_gain_58 : decode cX3_gain 58 = .ok (.iconst 1, 1) := by decide +kernel
theorem dX3_gain_59 : decode cX3_gain 59 = .ok (.iload 8, 2) := by decide +kernel
theorem dX3_gain_61 : decode cX3_gain 61 = .ok (.ishl, 1) := by decide +kernel
theorem dX3_gain_62 : decode cX3_gain 62 = .ok (.iconst (-1), 1) := by decide +kernel
theorem dX3_gain_63 : decode cX3_gain 63 = .ok (.ixor, 1) := by decide +kernel
theorem dX3_gain_64 : decode cX3_gain 64 = .ok (.iand, 1) := by decide +kernel
theorem dX3_gain_65 : decode cX3_gain 65 = .ok (.istore 5, 2) := by decide +kernel
theorem dX3_gain_67 : decode cX3_gain 67 = .ok (.iinc 7 1, 3) := by decide +kernel
theorem dX3_gain_70 : decode cX3_gain 70 = .ok (.goto (-49), 3) := by decide +kernel
theorem dX3_gain_73 : decode cX3_gain 73 = .ok (.iload 6, 2) := by decide +kernel
theorem dX3_gain_75 : decode cX3_gain 75 = .ok (.iconst 2, 1) := by decide +kernel
theorem dX3_gain_76 : decode cX3_gain 76 = .ok (.idiv, 1) := by decide +kernel
theorem dX3_gain_77 : decode cX3_gain 77 = .ok (.ireturn, 1) := by decide +kernel
theorem dX3_heaviestOf_0 : decode cX3_heaviestOf 0 = .ok (.iconst (-1), 1) := by decide +kernel
theorem dX3_heaviestOf_1 : decode cX3_heaviestOf 1 = .ok (.istore_n 2, 1) := by decide +kernel
theorem dX3_heaviestOf_2 : decode cX3_heaviestOf 2 = .ok (.iconst 0, 1) := by decide +kernel
theorem dX3_heaviestOf_3 : decode cX3_heaviestOf 3 = .ok (.istore_n 3, 1) := by decide +kernel
theorem dX3_heaviestOf_4 : decode cX3_heaviestOf 4 = .ok (.iload_n 3, 1) := by decide +kernel
theorem dX3_heaviestOf_5 : decode cX3_heaviestOf 5 = .ok (.aload_n 0, 1) := by decide +kernel
theorem dX3_heaviestOf_6 : decode cX3_heaviestOf 6 = .ok (.arraylength, 1) := by decide +kernel
theorem dX3_heaviestOf_7 : decode cX3_heaviestOf 7 = .ok (.if_icmp .ge 34, 3) := by decide +kernel
theorem dX3_heaviestOf_10 : decode cX3_heaviestOf 10 = .ok (.iload_n 1, 1) := by decide +kernel
theorem dX3_heaviestOf_11 : decode cX3_heaviestOf 11 = .ok (.iload_n 3, 1) := by decide +kernel
theorem dX3_heaviestOf_12 : decode cX3_heaviestOf 12 = .ok (.ishr, 1) := by decide +kernel
theorem dX3_heaviestOf_13 : decode cX3_heaviestOf 13 = .ok (.iconst 1, 1) := by decide +kernel
theorem dX3_heaviestOf_14 : decode cX3_heaviestOf 14 = .ok (.iand, 1) := by decide +kernel
theorem dX3_heaviestOf_15 : decode cX3_heaviestOf 15 = .ok (.iconst 1, 1) := by decide +kernel
theorem dX3_heaviestOf_16 : decode cX3_heaviestOf 16 = .ok (.if_icmp .ne 19, 3) := by decide +kernel
theorem dX3_heaviestOf_19 : decode cX3_heaviestOf 19 = .ok (.iload_n 2, 1) := by decide +kernel
theorem dX3_heaviestOf_20 : decode cX3_heaviestOf 20 = .ok (.iconst (-1), 1) := by decide +kernel
theorem dX3_heaviestOf_21 : decode cX3_heaviestOf 21 = .ok (.if_icmp .eq 12, 3) := by decide +kernel
theorem dX3_heaviestOf_24 : decode cX3_heaviestOf 24 = .ok (.aload_n 0, 1) := by decide +kernel
theorem dX3_heaviestOf_25 : decode cX3_heaviestOf 25 = .ok (.iload_n 3, 1) := by decide +kernel
theorem dX3_heaviestOf_26 : decode cX3_heaviestOf 26 = .ok (.iaload, 1) := by decide +kernel
theorem dX3_heaviestOf_27 : decode cX3_heaviestOf 27 = .ok (.aload_n 0, 1) := by decide +kernel
theorem dX3_heaviestOf_28 : decode cX3_heaviestOf 28 = .ok (.iload_n 2, 1) := by decide +kernel
theorem dX3_heaviestOf_29 : decode cX3_heaviestOf 29 = .ok (.iaload, 1) := by decide +kernel
theorem dX3_heaviestOf_30 : decode cX3_heaviestOf 30 = .ok (.if_icmp .le 5, 3) := by decide +kernel
theorem dX3_heaviestOf_33 : decode cX3_heaviestOf 33 = .ok (.iload_n 3, 1) := by decide +kernel
theorem dX3_heaviestOf_34 : decode cX3_heaviestOf 34 = .ok (.istore_n 2, 1) := by decide +kernel
theorem dX3_heaviestOf_35 : decode cX3_heaviestOf 35 = .ok (.iinc 3 1, 3) := by decide +kernel
theorem dX3_heaviestOf_38 : decode cX3_heaviestOf 38 = .ok (.goto (-34), 3) := by decide +kernel
theorem dX3_heaviestOf_41 : decode cX3_heaviestOf 41 = .ok (.iload_n 2, 1) := by decide +kernel
theorem dX3_heaviestOf_42 : decode cX3_heaviestOf 42 = .ok (.ireturn, 1) := by decide +kernel
theorem dX3_choose_0 : decode cX3_choose 0 = .ok (.iload_n 2, 1) := by decide +kernel
theorem dX3_choose_1 : decode cX3_choose 1 = .ok (.istore 4, 2) := by decide +kernel
theorem dX3_choose_3 : decode cX3_choose 3 = .ok (.iload_n 3, 1) := by decide +kernel
theorem dX3_choose_4 : decode cX3_choose 4 = .ok (.istore 5, 2) := by decide +kernel
theorem dX3_choose_6 : decode cX3_choose 6 = .ok (.aload_n 0, 1) := by decide +kernel
theorem dX3_choose_7 : decode cX3_choose 7 = .ok (.aload_n 1, 1) := by decide +kernel
theorem dX3_choose_8 : decode cX3_choose 8 = .ok (.iload 4, 2) := by decide +kernel
theorem dX3_choose_10 : decode cX3_choose 10 = .ok (.iload_n 3, 1) := by decide +kernel
theorem dX3_choose_11 : decode cX3_choose 11 = .ok (.invokevirtual 31, 3) := by decide +kernel
theorem dX3_choose_14 : decode cX3_choose 14 = .ok (.istore 6, 2) := by decide +kernel
theorem dX3_choose_16 : decode cX3_choose 16 = .ok (.iconst 0, 1) := by decide +kernel
theorem dX3_choose_17 : decode cX3_choose 17 = .ok (.istore 7, 2) := by decide +kernel
theorem dX3_choose_19 : decode cX3_choose 19 = .ok (.iload 7, 2) := by decide +kernel
theorem dX3_choose_21 : decode cX3_choose 21 = .ok (.bipush 12, 2) := by decide +kernel
theorem dX3_choose_23 : decode cX3_choose 23 = .ok (.if_icmp .ge 101, 3) := by decide +kernel
theorem dX3_choose_26 : decode cX3_choose 26 = .ok (.iload 4, 2) := by decide +kernel
theorem dX3_choose_28 : decode cX3_choose 28 = .ok (.iload 7, 2) := by decide +kernel
theorem dX3_choose_30 : decode cX3_choose 30 = .ok (.ishr, 1) := by decide +kernel
theorem dX3_choose_31 : decode cX3_choose 31 = .ok (.iconst 1, 1) := by decide +kernel
theorem dX3_choose_32 : decode cX3_choose 32 = .ok (.iand, 1) := by decide +kernel
theorem dX3_choose_33 : decode cX3_choose 33 = .ok (.ifCond .ne 6, 3) := by decide +kernel
theorem dX3_choose_36 : decode cX3_choose 36 = .ok (.goto 82, 3) := by decide +kernel
theorem dX3_choose_39 : decode cX3_choose 39 = .ok (.iload 4, 2) := by decide +kernel
theorem dX3_choose_41 : decode cX3_choose 41 = .ok (.iconst 1, 1) := by decide +kernel
theorem dX3_choose_42 : decode cX3_choose 42 = .ok (.iload 7, 2) := by decide +kernel
theorem dX3_choose_44 : decode cX3_choose 44 = .ok (.ishl, 1) := by decide +kernel
theorem dX3_choose_45 : decode cX3_choose 45 = .ok (.iconst (-1), 1) := by decide +kernel
theorem dX3_choose_46 : decode cX3_choose 46 = .ok (.ixor, 1) := by decide +kernel
theorem dX3_choose_47 : decode cX3_choose 47 = .ok (.iand, 1) := by decide +kernel
theorem dX3_choose_48 : decode cX3_choose 48 = .ok (.istore 4, 2) := by decide +kernel
theorem dX3_choose_50 : decode cX3_choose 50 = .ok (.aload_n 0, 1) := by decide +kernel
theorem dX3_choose_51 : decode cX3_choose 51 = .ok (.aload_n 1, 1) := by decide +kernel
theorem dX3_choose_52 : decode cX3_choose 52 = .ok (.iload 7, 2) := by decide +kernel
theorem dX3_choose_54 : decode cX3_choose 54 = .ok (.iload 4, 2) := by decide +kernel
theorem dX3_choose_56 : decode cX3_choose 56 = .ok (.iload 5, 2) := by decide +kernel
theorem dX3_choose_58 : decode cX3_choose 58 = .ok (.iload 6, 2) := by decide +kernel
theorem dX3_choose_60 : decode cX3_choose 60 = .ok (.invokevirtual 35, 3) := by decide +kernel
theorem dX3_choose_63 : decode cX3_choose 63 = .ok (.istore 8, 2) := by decide +kernel
theorem dX3_choose_65 : decode cX3_choose 65 = .ok (.aload_n 0, 1) := by decide +kernel
theorem dX3_choose_66 : decode cX3_choose 66 = .ok (.getfield 9, 3) := by decide +kernel
theorem dX3_choose_69 : decode cX3_choose 69 = .ok (.iload 7, 2) := by decide +kernel
theorem dX3_choose_71 : decode cX3_choose 71 = .ok (.iload 8, 2) := by decide +kernel
theorem dX3_choose_73 : decode cX3_choose 73 = .ok (.iastore, 1) := by decide +kernel
theorem dX3_choose_74 : decode cX3_choose 74 = .ok (.iload 8, 2) := by decide +kernel
theorem dX3_choose_76 : decode cX3_choose 76 = .ok (.ifCond .lt 42, 3) := by decide +kernel
theorem dX3_choose_79 : decode cX3_choose 79 = .ok (.aload_n 0, 1) := by decide +kernel
theorem dX3_choose_80 : decode cX3_choose 80 = .ok (.getfield 9, 3) := by decide +kernel
theorem dX3_choose_83 : decode cX3_choose 83 = .ok (.iload 8, 2) := by decide +kernel
theorem dX3_choose_85 : decode cX3_choose 85 = .ok (.iload 7, 2) := by decide +kernel
theorem dX3_choose_87 : decode cX3_choose 87 = .ok (.iastore, 1) := by decide +kernel
theorem dX3_choose_88 : decode cX3_choose 88 = .ok (.iload 4, 2) := by decide +kernel
theorem dX3_choose_90 : decode cX3_choose 90 = .ok (.iconst 1, 1) := by decide +kernel
theorem dX3_choose_91 : decode cX3_choose 91 = .ok (.iload 8, 2) := by decide +kernel
theorem dX3_choose_93 : decode cX3_choose 93 = .ok (.ishl, 1) := by decide +kernel
theorem dX3_choose_94 : decode cX3_choose 94 = .ok (.iconst (-1), 1) := by decide +kernel
theorem dX3_choose_95 : decode cX3_choose 95 = .ok (.ixor, 1) := by decide +kernel
theorem dX3_choose_96 : decode cX3_choose 96 = .ok (.iand, 1) := by decide +kernel
theorem dX3_choose_97 : decode cX3_choose 97 = .ok (.istore 4, 2) := by decide +kernel
theorem dX3_choose_99 : decode cX3_choose 99 = .ok (.iinc 5 (-1), 3) := by decide +kernel
theorem dX3_choose_102 : decode cX3_choose 102 = .ok (.iload 6, 2) := by decide +kernel
theorem dX3_choose_104 : decode cX3_choose 104 = .ok (.aload_n 1, 1) := by decide +kernel
theorem dX3_choose_105 : decode cX3_choose 105 = .ok (.iload 7, 2) := by decide +kernel
theorem dX3_choose_107 : decode cX3_choose 107 = .ok (.iaload, 1) := by decide +kernel
theorem dX3_choose_108 : decode cX3_choose 108 = .ok (.aload_n 1, 1) := by decide +kernel
theorem dX3_choose_109 : decode cX3_choose 109 = .ok (.iload 8, 2) := by decide +kernel
theorem dX3_choose_111 : decode cX3_choose 111 = .ok (.iaload, 1) := by decide +kernel
theorem dX3_choose_112 : decode cX3_choose 112 = .ok (.iadd, 1) := by decide +kernel
theorem dX3_choose_113 : decode cX3_choose 113 = .ok (.iconst 2, 1) := by decide +kernel
theorem dX3_choose_114 : decode cX3_choose 114 = .ok (.idiv, 1) := by decide +kernel
theorem dX3_choose_115 : decode cX3_choose 115 = .ok (.isub, 1) := by decide +kernel
theorem dX3_choose_116 : decode cX3_choose 116 = .ok (.istore 6, 2) := by decide +kernel
theorem dX3_choose_118 : decode cX3_choose 118 = .ok (.iinc 7 1, 3) := by decide +kernel
theorem dX3_choose_121 : decode cX3_choose 121 = .ok (.goto (-102), 3) := by decide +kernel
theorem dX3_choose_124 : decode cX3_choose 124 = .ok (.return_, 1) := by decide +kernel
theorem dX3_firstPartner_0 : decode cX3_firstPartner 0 = .ok (.aload_n 0, 1) := by decide +kernel
theorem dX3_firstPartner_1 : decode cX3_firstPartner 1 = .ok (.aload_n 1, 1) := by decide +kernel
theorem dX3_firstPartner_2 : decode cX3_firstPartner 2 = .ok (.iload_n 3, 1) := by decide +kernel
theorem dX3_firstPartner_3 : decode cX3_firstPartner 3 = .ok (.iload 4, 2) := by decide +kernel
theorem dX3_firstPartner_5 : decode cX3_firstPartner 5 = .ok (.invokevirtual 31, 3) := by decide +kernel
theorem dX3_firstPartner_8 : decode cX3_firstPartner 8 = .ok (.iload 5, 2) := by decide +kernel
theorem dX3_firstPartner_10 : decode cX3_firstPartner 10 = .ok (.if_icmp .ne 6, 3) := by decide +kernel
theorem dX3_firstPartner_13 : decode cX3_firstPartner 13 = .ok (.bipush (-2), 2) := by decide +kernel
theorem dX3_firstPartner_15 : decode cX3_firstPartner 15 = .ok (.ireturn, 1) := by decide +kernel
theorem dX3_firstPartner_16 : decode cX3_firstPartner 16 = .ok (.iload_n 2, 1) := by decide +kernel
theorem dX3_firstPartner_17 : decode cX3_firstPartner 17 = .ok (.iconst 1, 1) := by decide +kernel
theorem dX3_firstPartner_18 : decode cX3_firstPartner 18 = .ok (.iadd, 1) := by decide +kernel
theorem dX3_firstPartner_19 : decode cX3_firstPartner 19 = .ok (.istore 6, 2) := by decide +kernel
theorem dX3_firstPartner_21 : decode cX3_firstPartner 21 = .ok (.iload 6, 2) := by decide +kernel
theorem dX3_firstPartner_23 : decode cX3_firstPartner 23 = .ok (.bipush 12, 2) := by decide +kernel
theorem dX3_firstPartner_25 : decode cX3_firstPartner 25 = .ok (.if_icmp .ge 71, 3) := by decide +kernel
theorem dX3_firstPartner_28 : decode cX3_firstPartner 28 = .ok (.iload_n 3, 1) := by decide +kernel
theorem dX3_firstPartner_29 : decode cX3_firstPartner 29 = .ok (.iload 6, 2) := by decide +kernel
theorem dX3_firstPartner_31 : decode cX3_firstPartner 31 = .ok (.ishr, 1) := by decide +kernel
theorem dX3_firstPartner_32 : decode cX3_firstPartner 32 = .ok (.iconst 1, 1) := by decide +kernel
theorem dX3_firstPartner_33 : decode cX3_firstPartner 33 = .ok (.iand, 1) := by decide +kernel
theorem dX3_firstPartner_34 : decode cX3_firstPartner 34 = .ok (.iconst 1, 1) := by decide +kernel
theorem dX3_firstPartner_35 : decode cX3_firstPartner 35 = .ok (.if_icmp .ne 7, 3) := by decide +kernel
theorem dX3_firstPartner_38 : decode cX3_firstPartner 38 = .ok (.iconst 1, 1) := by decide +kernel
theorem dX3_firstPartner_39 : decode cX3_firstPartner 39 = .ok (.goto 4, 3) := by decide +kernel
theorem dX3_firstPartner_42 : decode cX3_firstPartner 42 = .ok (.iconst 0, 1) := by decide +kernel
theorem dX3_firstPartner_43 : decode cX3_firstPartner 43 = .ok (.istore 7, 2) := by decide +kernel
theorem dX3_firstPartner_45 : decode cX3_firstPartner 45 = .ok (.aload_n 1, 1) := by decide +kernel
theorem dX3_firstPartner_46 : decode cX3_firstPartner 46 = .ok (.iload_n 2, 1) := by decide +kernel
theorem dX3_firstPartner_47 : decode cX3_firstPartner 47 = .ok (.iaload, 1) := by decide +kernel
theorem dX3_firstPartner_48 : decode cX3_firstPartner 48 = .ok (.aload_n 1, 1) := by decide +kernel
theorem dX3_firstPartner_49 : decode cX3_firstPartner 49 = .ok (.iload 6, 2) := by decide +kernel
theorem dX3_firstPartner_51 : decode cX3_firstPartner 51 = .ok (.iaload, 1) := by decide +kernel
theorem dX3_firstPartner_52 : decode cX3_firstPartner 52 = .ok (.iadd, 1) := by decide +kernel
theorem dX3_firstPartner_53 : decode cX3_firstPartner 53 = .ok (.iconst 2, 1) := by decide +kernel
theorem dX3_firstPartner_54 : decode cX3_firstPartner 54 = .ok (.idiv, 1) := by decide +kernel
theorem dX3_firstPartner_55 : decode cX3_firstPartner 55 = .ok (.istore 8, 2) := by decide +kernel
theorem dX3_firstPartner_57 : decode cX3_firstPartner 57 = .ok (.iload 7, 2) := by decide +kernel
theorem dX3_firstPartner_59 : decode cX3_firstPartner 59 = .ok (.ifCond .eq 31, 3) := by decide +kernel
theorem dX3_firstPartner_62 : decode cX3_firstPartner 62 = .ok (.iload 8, 2) := by decide +kernel
theorem dX3_firstPartner_64 : decode cX3_firstPartner 64 = .ok (.aload_n 0, 1) := by decide +kernel
theorem dX3_firstPartner_65 : decode cX3_firstPartner 65 = .ok (.aload_n 1, 1) := by decide +kernel
theorem dX3_firstPartner_66 : decode cX3_firstPartner 66 = .ok (.iload_n 3, 1) := by decide +kernel
theorem dX3_firstPartner_67 : decode cX3_firstPartner 67 = .ok (.iconst 1, 1) := by decide +kernel
theorem dX3_firstPartner_68 : decode cX3_firstPartner 68 = .ok (.iload 6, 2) := by decide +kernel
theorem dX3_firstPartner_70 : decode cX3_firstPartner 70 = .ok (.ishl, 1) := by decide +kernel
theorem dX3_firstPartner_71 : decode cX3_firstPartner 71 = .ok (.iconst (-1), 1) := by decide +kernel
theorem dX3_firstPartner_72 : decode cX3_firstPartner 72 = .ok (.ixor, 1) := by decide +kernel
theorem dX3_firstPartner_73 : decode cX3_firstPartner 73 = .ok (.iand, 1) := by decide +kernel
theorem dX3_firstPartner_74 : decode cX3_firstPartner 74 = .ok (.iload 4, 2) := by decide +kernel
theorem dX3_firstPartner_76 : decode cX3_firstPartner 76 = .ok (.iconst 1, 1) := by decide +kernel
theorem dX3_firstPartner_77 : decode cX3_firstPartner 77 = .ok (.isub, 1) := by decide +kernel
theorem dX3_firstPartner_78 : decode cX3_firstPartner 78 = .ok (.invokevirtual 31, 3) := by decide +kernel
theorem dX3_firstPartner_81 : decode cX3_firstPartner 81 = .ok (.iadd, 1) := by decide +kernel
theorem dX3_firstPartner_82 : decode cX3_firstPartner 82 = .ok (.iload 5, 2) := by decide +kernel
theorem dX3_firstPartner_84 : decode cX3_firstPartner 84 = .ok (.if_icmp .ne 6, 3) := by decide +kernel
theorem dX3_firstPartner_87 : decode cX3_firstPartner 87 = .ok (.iload 6, 2) := by decide +kernel
theorem dX3_firstPartner_89 : decode cX3_firstPartner 89 = .ok (.ireturn, 1) := by decide +kernel
theorem dX3_firstPartner_90 : decode cX3_firstPartner 90 = .ok (.iinc 6 1, 3) := by decide +kernel
theorem dX3_firstPartner_93 : decode cX3_firstPartner 93 = .ok (.goto (-72), 3) := by decide +kernel
theorem dX3_firstPartner_96 : decode cX3_firstPartner 96 = .ok (.bipush (-2), 2) := by decide +kernel
theorem dX3_firstPartner_98 : decode cX3_firstPartner 98 = .ok (.ireturn, 1) := by decide +kernel
theorem dX4_init_0 : decode cX4_init 0 = .ok (.aload_n 0, 1) := by decide +kernel
theorem dX4_init_1 : decode cX4_init 1 = .ok (.invokespecial 3, 3) := by decide +kernel
theorem dX4_init_4 : decode cX4_init 4 = .ok (.aload_n 0, 1) := by decide +kernel
theorem dX4_init_5 : decode cX4_init 5 = .ok (.bipush 12, 2) := by decide +kernel
theorem dX4_init_7 : decode cX4_init 7 = .ok (.newarray .int, 2) := by decide +kernel
theorem dX4_init_9 : decode cX4_init 9 = .ok (.putfield 9, 3) := by decide +kernel
theorem dX4_init_12 : decode cX4_init 12 = .ok (.aload_n 0, 1) := by decide +kernel
theorem dX4_init_13 : decode cX4_init 13 = .ok (.sipush 128, 3) := by decide +kernel
theorem dX4_init_16 : decode cX4_init 16 = .ok (.newarray .int, 2) := by decide +kernel
theorem dX4_init_18 : decode cX4_init 18 = .ok (.putfield 15, 3) := by decide +kernel
theorem dX4_init_21 : decode cX4_init 21 = .ok (.return_, 1) := by decide +kernel
theorem dX4_search_0 : decode cX4_search 0 = .ok (.aload_n 0, 1) := by decide +kernel
theorem dX4_search_1 : decode cX4_search 1 = .ok (.iload_n 2, 1) := by decide +kernel
theorem dX4_search_2 : decode cX4_search 2 = .ok (.putfield 18, 3) := by decide +kernel
theorem dX4_search_5 : decode cX4_search 5 = .ok (.aload_n 0, 1) := by decide +kernel
theorem dX4_search_6 : decode cX4_search 6 = .ok (.iload_n 3, 1) := by decide +kernel
theorem dX4_search_7 : decode cX4_search 7 = .ok (.putfield 22, 3) := by decide +kernel
theorem dX4_search_10 : decode cX4_search 10 = .ok (.iconst 0, 1) := by decide +kernel
theorem dX4_search_11 : decode cX4_search 11 = .ok (.istore 4, 2) := by decide +kernel
theorem dX4_search_13 : decode cX4_search 13 = .ok (.iload 4, 2) := by decide +kernel
theorem dX4_search_15 : decode cX4_search 15 = .ok (.aload_n 0, 1) := by decide +kernel
theorem dX4_search_16 : decode cX4_search 16 = .ok (.getfield 15, 3) := by decide +kernel
theorem dX4_search_19 : decode cX4_search 19 = .ok (.arraylength, 1) := by decide +kernel
theorem dX4_search_20 : decode cX4_search 20 = .ok (.if_icmp .ge 17, 3) := by decide +kernel
theorem dX4_search_23 : decode cX4_search 23 = .ok (.aload_n 0, 1) := by decide +kernel
theorem dX4_search_24 : decode cX4_search 24 = .ok (.getfield 15, 3) := by decide +kernel
theorem dX4_search_27 : decode cX4_search 27 = .ok (.iload 4, 2) := by decide +kernel
theorem dX4_search_29 : decode cX4_search 29 = .ok (.iconst 0, 1) := by decide +kernel
theorem dX4_search_30 : decode cX4_search 30 = .ok (.iastore, 1) := by decide +kernel
theorem dX4_search_31 : decode cX4_search 31 = .ok (.iinc 4 1, 3) := by decide +kernel
theorem dX4_search_34 : decode cX4_search 34 = .ok (.goto (-21), 3) := by decide +kernel
theorem dX4_search_37 : decode cX4_search 37 = .ok (.aload_n 0, 1) := by decide +kernel
theorem dX4_search_38 : decode cX4_search 38 = .ok (.aload_n 1, 1) := by decide +kernel
theorem dX4_search_39 : decode cX4_search 39 = .ok (.invokevirtual 25, 3) := by decide +kernel
theorem dX4_search_42 : decode cX4_search 42 = .ok (.ifCond .eq 17, 3) := by decide +kernel
theorem dX4_search_45 : decode cX4_search 45 = .ok (.aload_n 0, 1) := by decide +kernel
theorem dX4_search_46 : decode cX4_search 46 = .ok (.aload_n 1, 1) := by decide +kernel
theorem dX4_search_47 : decode cX4_search 47 = .ok (.iconst 0, 1) := by decide +kernel
theorem dX4_search_48 : decode cX4_search 48 = .ok (.iconst 0, 1) := by decide +kernel
theorem dX4_search_49 : decode cX4_search 49 = .ok (.invokevirtual 29, 3) := by decide +kernel
theorem dX4_search_52 : decode cX4_search 52 = .ok (.ifCond .eq 7, 3) := by decide +kernel
theorem dX4_search_55 : decode cX4_search 55 = .ok (.iconst 1, 1) := by decide +kernel
theorem dX4_search_56 : decode cX4_search 56 = .ok (.goto 4, 3) := by decide +kernel
theorem dX4_search_59 : decode cX4_search 59 = .ok (.iconst 0, 1) := by decide +kernel
theorem dX4_search_60 : decode cX4_search 60 = .ok (.ireturn, 1) := by decide +kernel
theorem dX4_endBears_0 : decode cX4_endBears 0 = .ok (.iconst 0, 1) := by decide +kernel
theorem dX4_endBears_1 : decode cX4_endBears 1 = .ok (.istore_n 2, 1) := by decide +kernel
theorem dX4_endBears_2 : decode cX4_endBears 2 = .ok (.iload_n 2, 1) := by decide +kernel
theorem dX4_endBears_3 : decode cX4_endBears 3 = .ok (.bipush 12, 2) := by decide +kernel
theorem dX4_endBears_5 : decode cX4_endBears 5 = .ok (.if_icmp .ge 26, 3) := by decide +kernel
theorem dX4_endBears_8 : decode cX4_endBears 8 = .ok (.aload_n 0, 1) := by decide +kernel
theorem dX4_endBears_9 : decode cX4_endBears 9 = .ok (.getfield 18, 3) := by decide +kernel
theorem dX4_endBears_12 : decode cX4_endBears 12 = .ok (.iload_n 2, 1) := by decide +kernel
theorem dX4_endBears_13 : decode cX4_endBears 13 = .ok (.ishr, 1) := by decide +kernel
theorem dX4_endBears_14 : decode cX4_endBears 14 = .ok (.iconst 1, 1) := by decide +kernel
theorem dX4_endBears_15 : decode cX4_endBears 15 = .ok (.iand, 1) := by decide +kernel
theorem dX4_endBears_16 : decode cX4_endBears 16 = .ok (.iconst 1, 1) := by decide +kernel
theorem dX4_endBears_17 : decode cX4_endBears 17 = .ok (.if_icmp .ne 8, 3) := by decide +kernel
theorem dX4_endBears_20 : decode cX4_endBears 20 = .ok (.aload_n 1, 1) := by decide +kernel
theorem dX4_endBears_21 : decode cX4_endBears 21 = .ok (.iload_n 2, 1) := by decide +kernel
theorem dX4_endBears_22 : decode cX4_endBears 22 = .ok (.invokevirtual 33, 3) := by decide +kernel
theorem dX4_endBears_25 : decode cX4_endBears 25 = .ok (.iinc 2 1, 3) := by decide +kernel
theorem dX4_endBears_28 : decode cX4_endBears 28 = .ok (.goto (-26), 3) := by decide +kernel
theorem dX4_endBears_31 : decode cX4_endBears 31 = .ok (.aload_n 1, 1) := by decide +kernel
theorem dX4_endBears_32 : decode cX4_endBears 32 = .ok (.invokevirtual 39, 3) := by decide +kernel
theorem dX4_endBears_35 : decode cX4_endBears 35 = .ok (.aload_n 0, 1) := by decide +kernel
theorem dX4_endBears_36 : decode cX4_endBears 36 = .ok (.getfield 22, 3) := by decide +kernel
theorem dX4_endBears_39 : decode cX4_endBears 39 = .ok (.if_icmp .lt 7, 3) := by decide +kernel
theorem dX4_endBears_42 : decode cX4_endBears 42 = .ok (.iconst 1, 1) := by decide +kernel
theorem dX4_endBears_43 : decode cX4_endBears 43 = .ok (.goto 4, 3) := by decide +kernel
theorem dX4_endBears_46 : decode cX4_endBears 46 = .ok (.iconst 0, 1) := by decide +kernel
theorem dX4_endBears_47 : decode cX4_endBears 47 = .ok (.istore_n 2, 1) := by decide +kernel
theorem dX4_endBears_48 : decode cX4_endBears 48 = .ok (.iconst 0, 1) := by decide +kernel
theorem dX4_endBears_49 : decode cX4_endBears 49 = .ok (.istore_n 3, 1) := by decide +kernel
theorem dX4_endBears_50 : decode cX4_endBears 50 = .ok (.iload_n 3, 1) := by decide +kernel
theorem dX4_endBears_51 : decode cX4_endBears 51 = .ok (.bipush 12, 2) := by decide +kernel
theorem dX4_endBears_53 : decode cX4_endBears 53 = .ok (.if_icmp .ge 26, 3) := by decide +kernel
theorem dX4_endBears_56 : decode cX4_endBears 56 = .ok (.aload_n 0, 1) := by decide +kernel
theorem dX4_endBears_57 : decode cX4_endBears 57 = .ok (.getfield 18, 3) := by decide +kernel
theorem dX4_endBears_60 : decode cX4_endBears 60 = .ok (.iload_n 3, 1) := by decide +kernel
theorem dX4_endBears_61 : decode cX4_endBears 61 = .ok (.ishr, 1) := by decide +kernel
theorem dX4_endBears_62 : decode cX4_endBears 62 = .ok (.iconst 1, 1) := by decide +kernel
theorem dX4_endBears_63 : decode cX4_endBears 63 = .ok (.iand, 1) := by decide +kernel
theorem dX4_endBears_64 : decode cX4_endBears 64 = .ok (.iconst 1, 1) := by decide +kernel
theorem dX4_endBears_65 : decode cX4_endBears 65 = .ok (.if_icmp .ne 8, 3) := by decide +kernel
theorem dX4_endBears_68 : decode cX4_endBears 68 = .ok (.aload_n 1, 1) := by decide +kernel
theorem dX4_endBears_69 : decode cX4_endBears 69 = .ok (.iload_n 3, 1) := by decide +kernel
theorem dX4_endBears_70 : decode cX4_endBears 70 = .ok (.invokevirtual 43, 3) := by decide +kernel
theorem dX4_endBears_73 : decode cX4_endBears 73 = .ok (.iinc 3 1, 3) := by decide +kernel
theorem dX4_endBears_76 : decode cX4_endBears 76 = .ok (.goto (-26), 3) := by decide +kernel
theorem dX4_endBears_79 : decode cX4_endBears 79 = .ok (.iload_n 2, 1) := by decide +kernel
theorem dX4_endBears_80 : decode cX4_endBears 80 = .ok (.ireturn, 1) := by decide +kernel
theorem dX4_payRest_0 : decode cX4_payRest 0 = .ok (.iload_n 2, 1) := by decide +kernel
theorem dX4_payRest_1 : decode cX4_payRest 1 = .ok (.aload_n 0, 1) := by decide +kernel
theorem dX4_payRest_2 : decode cX4_payRest 2 = .ok (.getfield 18, 3) := by decide +kernel
theorem dX4_payRest_5 : decode cX4_payRest 5 = .ok (.if_icmp .ne 5, 3) := by decide +kernel
theorem dX4_payRest_8 : decode cX4_payRest 8 = .ok (.iconst 1, 1) := by decide +kernel
theorem dX4_payRest_9 : decode cX4_payRest 9 = .ok (.ireturn, 1) := by decide +kernel
theorem dX4_payRest_10 : decode cX4_payRest 10 = .ok (.iconst 0, 1) := by decide +kernel
theorem dX4_payRest_11 : decode cX4_payRest 11 = .ok (.istore 4, 2) := by decide +kernel
theorem dX4_payRest_13 : decode cX4_payRest 13 = .ok (.iload 4, 2) := by decide +kernel
theorem dX4_payRest_15 : decode cX4_payRest 15 = .ok (.bipush 12, 2) := by decide +kernel
theorem dX4_payRest_17 : decode cX4_payRest 17 = .ok (.if_icmp .ge 127, 3) := by decide +kernel
theorem dX4_payRest_20 : decode cX4_payRest 20 = .ok (.iload_n 3, 1) := by decide +kernel
theorem dX4_payRest_21 : decode cX4_payRest 21 = .ok (.bipush 12, 2) := by decide +kernel
theorem dX4_payRest_23 : decode cX4_payRest 23 = .ok (.if_icmp .ge 121, 3) := by decide +kernel
theorem dX4_payRest_26 : decode cX4_payRest 26 = .ok (.iload_n 2, 1) := by decide +kernel
theorem dX4_payRest_27 : decode cX4_payRest 27 = .ok (.iconst 1, 1) := by decide +kernel
theorem dX4_payRest_28 : decode cX4_payRest 28 = .ok (.iload 4, 2) := by decide +kernel
theorem dX4_payRest_30 : decode cX4_payRest 30 = .ok (.ishl, 1) := by decide +kernel
theorem dX4_payRest_31 : decode cX4_payRest 31 = .ok (.ior, 1) := by decide +kernel
theorem dX4_payRest_32 : decode cX4_payRest 32 = .ok (.istore 5, 2) := by decide +kernel
theorem dX4_payRest_34 : decode cX4_payRest 34 = .ok (.aload_n 0, 1) := by decide +kernel
theorem dX4_payRest_35 : decode cX4_payRest 35 = .ok (.getfield 18, 3) := by decide +kernel
theorem dX4_payRest_38 : decode cX4_payRest 38 = .ok (.iload 4, 2) := by decide +kernel
theorem dX4_payRest_40 : decode cX4_payRest 40 = .ok (.ishr, 1) := by decide +kernel
theorem dX4_payRest_41 : decode cX4_payRest 41 = .ok (.iconst 1, 1) := by decide +kernel
theorem dX4_payRest_42 : decode cX4_payRest 42 = .ok (.iand, 1) := by decide +kernel
theorem dX4_payRest_43 : decode cX4_payRest 43 = .ok (.iconst 1, 1) := by decide +kernel
theorem dX4_payRest_44 : decode cX4_payRest 44 = .ok (.if_icmp .ne 31, 3) := by decide +kernel
theorem dX4_payRest_47 : decode cX4_payRest 47 = .ok (.iload 5, 2) := by decide +kernel
theorem dX4_payRest_49 : decode cX4_payRest 49 = .ok (.iload_n 2, 1) := by decide +kernel
theorem dX4_payRest_50 : decode cX4_payRest 50 = .ok (.if_icmp .eq 25, 3) := by decide +kernel
theorem dX4_payRest_53 : decode cX4_payRest 53 = .ok (.aload_n 0, 1) := by decide +kernel
theorem dX4_payRest_54 : decode cX4_payRest 54 = .ok (.iload 5, 2) := by decide +kernel
theorem dX4_payRest_56 : decode cX4_payRest 56 = .ok (.invokevirtual 46, 3) := by decide +kernel
theorem dX4_payRest_59 : decode cX4_payRest 59 = .ok (.ifCond .ne 16, 3) := by decide +kernel
theorem dX4_payRest_62 : decode cX4_payRest 62 = .ok (.aload_n 1, 1) := by decide +kernel
theorem dX4_payRest_63 : decode cX4_payRest 63 = .ok (.iload 4, 2) := by decide +kernel
theorem dX4_payRest_65 : decode cX4_payRest 65 = .ok (.invokevirtual 50, 3) := by decide +kernel
theorem dX4_payRest_68 : decode cX4_payRest 68 = .ok (.ifCond .eq 7, 3) := by decide +kernel
theorem dX4_payRest_71 : decode cX4_payRest 71 = .ok (.iconst 1, 1) := by decide +kernel
theorem dX4_payRest_72 : decode cX4_payRest 72 = .ok (.goto 4, 3) := by decide +kernel
theorem dX4_payRest_75 : decode cX4_payRest 75 = .ok (.iconst 0, 1) := by decide +kernel
theorem dX4_payRest_76 : decode cX4_payRest 76 = .ok (.istore 6, 2) := by decide +kernel
theorem dX4_payRest_78 : decode cX4_payRest 78 = .ok (.iload 6, 2) := by decide +kernel
theorem dX4_payRest_80 : decode cX4_payRest 80 = .ok (.ifCond .ne 6, 3) := by decide +kernel
theorem dX4_payRest_83 : decode cX4_payRest 83 = .ok (.goto 55, 3) := by decide +kernel
theorem dX4_payRest_86 : decode cX4_payRest 86 = .ok (.aload_n 1, 1) := by decide +kernel
theorem dX4_payRest_87 : decode cX4_payRest 87 = .ok (.iload 4, 2) := by decide +kernel
theorem dX4_payRest_89 : decode cX4_payRest 89 = .ok (.invokevirtual 33, 3) := by decide +kernel
theorem dX4_payRest_92 : decode cX4_payRest 92 = .ok (.aload_n 1, 1) := by decide +kernel
theorem dX4_payRest_93 : decode cX4_payRest 93 = .ok (.invokevirtual 39, 3) := by decide +kernel
theorem dX4_payRest_96 : decode cX4_payRest 96 = .ok (.aload_n 0, 1) := by decide +kernel
theorem dX4_payRest_97 : decode cX4_payRest 97 = .ok (.getfield 22, 3) := by decide +kernel
theorem dX4_payRest_100 : decode cX4_payRest 100 = .ok (.if_icmp .lt 26, 3) := by decide +kernel
theorem dX4_payRest_103 : decode cX4_payRest 103 = .ok (.aload_n 0, 1) := by decide +kernel
theorem dX4_payRest_104 : decode cX4_payRest 104 = .ok (.aload_n 1, 1) := by decide +kernel
theorem dX4_payRest_105 : decode cX4_payRest 105 = .ok (.iload 5, 2) := by decide +kernel
theorem dX4_payRest_107 : decode cX4_payRest 107 = .ok (.iload_n 3, 1) := by decide +kernel
theorem dX4_payRest_108 : decode cX4_payRest 108 = .ok (.iconst 1, 1) := by decide +kernel
theorem dX4_payRest_109 : decode cX4_payRest 109 = .ok (.iadd, 1) := by decide +kernel
theorem dX4_payRest_110 : decode cX4_payRest 110 = .ok (.invokevirtual 29, 3) := by decide +kernel
theorem dX4_payRest_113 : decode cX4_payRest 113 = .ok (.ifCond .eq 13, 3) := by decide +kernel
theorem dX4_payRest_116 : decode cX4_payRest 116 = .ok (.aload_n 0, 1) := by decide +kernel
theorem dX4_payRest_117 : decode cX4_payRest 117 = .ok (.getfield 9, 3) := by decide +kernel
theorem dX4_payRest_120 : decode cX4_payRest 120 = .ok (.iload_n 3, 1) := by decide +kernel
theorem dX4_payRest_121 : decode cX4_payRest 121 = .ok (.iload 4, 2) := by decide +kernel
theorem dX4_payRest_123 : decode cX4_payRest 123 = .ok (.iastore, 1) := by decide +kernel
theorem dX4_payRest_124 : decode cX4_payRest 124 = .ok (.iconst 1, 1) := by decide +kernel
theorem dX4_payRest_125 : decode cX4_payRest 125 = .ok (.ireturn, 1) := by decide +kernel
theorem dX4_payRest_126 : decode cX4_payRest 126 = .ok (.aload_n 1, 1) := by decide +kernel
theorem dX4_payRest_127 : decode cX4_payRest 127 = .ok (.iload 4, 2) := by decide +kernel
theorem dX4_payRest_129 : decode cX4_payRest 129 = .ok (.invokevirtual 43, 3) := by decide +kernel
theorem dX4_payRest_132 : decode cX4_payRest 132 = .ok (.aload_n 0, 1) := by decide +kernel
theorem dX4_payRest_133 : decode cX4_payRest 133 = .ok (.iload 5, 2) := by decide +kernel
theorem dX4_payRest_135 : decode cX4_payRest 135 = .ok (.invokevirtual 53, 3) := by decide +kernel
theorem dX4_payRest_138 : decode cX4_payRest 138 = .ok (.iinc 4 1, 3) := by decide +kernel
theorem dX4_payRest_141 : decode cX4_payRest 141 = .ok (.goto (-128), 3) := by decide +kernel
theorem dX4_payRest_144 : decode cX4_payRest 144 = .ok (.iconst 0, 1) := by decide +kernel
theorem dX4_payRest_145 : decode cX4_payRest 145 = .ok (.ireturn, 1) := by decide +kernel
theorem dX4_isDead_0 : decode cX4_isDead 0 = .ok (.iload_n 1, 1) := by decide +kernel
theorem dX4_isDead_1 : decode cX4_isDead 1 = .ok (.bipush 32, 2) := by decide +kernel
theorem dX4_isDead_3 : decode cX4_isDead 3 = .ok (.idiv, 1) := by decide +kernel
theorem dX4_isDead_4 : decode cX4_isDead 4 = .ok (.istore_n 2, 1) := by decide +kernel
theorem dX4_isDead_5 : decode cX4_isDead 5 = .ok (.iload_n 2, 1) := by decide +kernel
theorem dX4_isDead_6 : decode cX4_isDead 6 = .ok (.ifCond .lt 29, 3) := by decide +kernel
theorem dX4_isDead_9 : decode cX4_isDead 9 = .ok (.iload_n 2, 1) := by decide +kernel
theorem dX4_isDead_10 : decode cX4_isDead 10 = .ok (.aload_n 0, 1) := by decide +kernel
theorem dX4_isDead_11 : decode cX4_isDead 11 = .ok (.getfield 15, 3) := by decide +kernel
theorem dX4_isDead_14 : decode cX4_isDead 14 = .ok (.arraylength, 1) := by decide +kernel
theorem dX4_isDead_15 : decode cX4_isDead 15 = .ok (.if_icmp .ge 20, 3) := by decide +kernel
theorem dX4_isDead_18 : decode cX4_isDead 18 = .ok (.aload_n 0, 1) := by decide +kernel
theorem dX4_isDead_19 : decode cX4_isDead 19 = .ok (.getfield 15, 3) := by decide +kernel
theorem dX4_isDead_22 : decode cX4_isDead 22 = .ok (.iload_n 2, 1) := by decide +kernel
theorem dX4_isDead_23 : decode cX4_isDead 23 = .ok (.iaload, 1) := by decide +kernel
theorem dX4_isDead_24 : decode cX4_isDead 24 = .ok (.iload_n 1, 1) := by decide +kernel
theorem dX4_isDead_25 : decode cX4_isDead 25 = .ok (.bipush 32, 2) := by decide +kernel
theorem dX4_isDead_27 : decode cX4_isDead 27 = .ok (.irem, 1) := by decide +kernel
theorem dX4_isDead_28 : decode cX4_isDead 28 = .ok (.ishr, 1) := by decide +kernel
theorem dX4_isDead_29 : decode cX4_isDead 29 = .ok (.iconst 1, 1) := by decide +kernel
theorem dX4_isDead_30 : decode cX4_isDead 30 = .ok (.iand, 1) := by decide +kernel
theorem dX4_isDead_31 : decode cX4_isDead 31 = .ok (.iconst 1, 1) := by decide +kernel
theorem dX4_isDead_32 : decode cX4_isDead 32 = .ok (.if_icmp .ne 7, 3) := by decide +kernel
theorem dX4_isDead_35 : decode cX4_isDead 35 = .ok (.iconst 1, 1) := by decide +kernel
theorem dX4_isDead_36 : decode cX4_isDead 36 = .ok (.goto 4, 3) := by decide +kernel
theorem dX4_isDead_39 : decode cX4_isDead 39 = .ok (.iconst 0, 1) := by decide +kernel
theorem dX4_isDead_40 : decode cX4_isDead 40 = .ok (.ireturn, 1) := by decide +kernel
theorem dX4_markDead_0 : decode cX4_markDead 0 = .ok (.iload_n 1, 1) := by decide +kernel
theorem dX4_markDead_1 : decode cX4_markDead 1 = .ok (.bipush 32, 2) := by decide +kernel
theorem dX4_markDead_3 : decode cX4_markDead 3 = .ok (.idiv, 1) := by decide +kernel
theorem dX4_markDead_4 : decode cX4_markDead 4 = .ok (.istore_n 2, 1) := by decide +kernel
theorem dX4_markDead_5 : decode cX4_markDead 5 = .ok (.iload_n 2, 1) := by decide +kernel
theorem dX4_markDead_6 : decode cX4_markDead 6 = .ok (.ifCond .lt 27, 3) := by decide +kernel
theorem dX4_markDead_9 : decode cX4_markDead 9 = .ok (.iload_n 2, 1) := by decide +kernel
theorem dX4_markDead_10 : decode cX4_markDead 10 = .ok (.aload_n 0, 1) := by decide +kernel
theorem dX4_markDead_11 : decode cX4_markDead 11 = .ok (.getfield 15, 3) := by decide +kernel
theorem dX4_markDead_14 : decode cX4_markDead 14 = .ok (.arraylength, 1) := by decide +kernel
theorem dX4_markDead_15 : decode cX4_markDead 15 = .ok (.if_icmp .ge 18, 3) := by decide +kernel
theorem dX4_markDead_18 : decode cX4_markDead 18 = .ok (.aload_n 0, 1) := by decide +kernel
theorem dX4_markDead_19 : decode cX4_markDead 19 = .ok (.getfield 15, 3) := by decide +kernel
theorem dX4_markDead_22 : decode cX4_markDead 22 = .ok (.iload_n 2, 1) := by decide +kernel
theorem dX4_markDead_23 : decode cX4_markDead 23 = .ok (.dup2, 1) := by decide +kernel
theorem dX4_markDead_24 : decode cX4_markDead 24 = .ok (.iaload, 1) := by decide +kernel
theorem dX4_markDead_25 : decode cX4_markDead 25 = .ok (.iconst 1, 1) := by decide +kernel
theorem dX4_markDead_26 : decode cX4_markDead 26 = .ok (.iload_n 1, 1) := by decide +kernel
theorem dX4_markDead_27 : decode cX4_markDead 27 = .ok (.bipush 32, 2) := by decide +kernel
theorem dX4_markDead_29 : decode cX4_markDead 29 = .ok (.irem, 1) := by decide +kernel
theorem dX4_markDead_30 : decode cX4_markDead 30 = .ok (.ishl, 1) := by decide +kernel
theorem dX4_markDead_31 : decode cX4_markDead 31 = .ok (.ior, 1) := by decide +kernel
theorem dX4_markDead_32 : decode cX4_markDead 32 = .ok (.iastore, 1) := by decide +kernel
theorem dX4_markDead_33 : decode cX4_markDead 33 = .ok (.return_, 1) := by decide +kernel
theorem dX5_init_0 : decode cX5_init 0 = .ok (.aload_n 0, 1) := by decide +kernel
theorem dX5_init_1 : decode cX5_init 1 = .ok (.invokespecial 3, 3) := by decide +kernel
theorem dX5_init_4 : decode cX5_init 4 = .ok (.aload_n 0, 1) := by decide +kernel
theorem dX5_init_5 : decode cX5_init 5 = .ok (.bipush 24, 2) := by decide +kernel
theorem dX5_init_7 : decode cX5_init 7 = .ok (.newarray .int, 2) := by decide +kernel
theorem dX5_init_9 : decode cX5_init 9 = .ok (.putfield 9, 3) := by decide +kernel
theorem dX5_init_12 : decode cX5_init 12 = .ok (.aload_n 0, 1) := by decide +kernel
theorem dX5_init_13 : decode cX5_init 13 = .ok (.bipush 24, 2) := by decide +kernel
theorem dX5_init_15 : decode cX5_init 15 = .ok (.newarray .int, 2) := by decide +kernel
theorem dX5_init_17 : decode cX5_init 17 = .ok (.putfield 15, 3) := by decide +kernel
theorem dX5_init_20 : decode cX5_init 20 = .ok (.aload_n 0, 1) := by decide +kernel
theorem dX5_init_21 : decode cX5_init 21 = .ok (.bipush 24, 2) := by decide +kernel
theorem dX5_init_23 : decode cX5_init 23 = .ok (.newarray .int, 2) := by decide +kernel
theorem dX5_init_25 : decode cX5_init 25 = .ok (.putfield 18, 3) := by decide +kernel
theorem dX5_init_28 : decode cX5_init 28 = .ok (.aload_n 0, 1) := by decide +kernel
theorem dX5_init_29 : decode cX5_init 29 = .ok (.bipush 24, 2) := by decide +kernel
theorem dX5_init_31 : decode cX5_init 31 = .ok (.newarray .int, 2) := by decide +kernel
theorem dX5_init_33 : decode cX5_init 33 = .ok (.putfield 21, 3) := by decide +kernel
theorem dX5_init_36 : decode cX5_init 36 = .ok (.aload_n 0, 1) := by decide +kernel
theorem dX5_init_37 : decode cX5_init 37 = .ok (.iconst (-1), 1) := by decide +kernel
theorem dX5_init_38 : decode cX5_init 38 = .ok (.putfield 24, 3) := by decide +kernel
theorem dX5_init_41 : decode cX5_init 41 = .ok (.return_, 1) := by decide +kernel
theorem dX5_clear_0 : decode cX5_clear 0 = .ok (.aload_n 0, 1) := by decide +kernel
theorem dX5_clear_1 : decode cX5_clear 1 = .ok (.iconst 0, 1) := by decide +kernel
theorem dX5_clear_2 : decode cX5_clear 2 = .ok (.putfield 28, 3) := by decide +kernel
theorem dX5_clear_5 : decode cX5_clear 5 = .ok (.aload_n 0, 1) := by decide +kernel
theorem dX5_clear_6 : decode cX5_clear 6 = .ok (.iconst (-1), 1) := by decide +kernel
theorem dX5_clear_7 : decode cX5_clear 7 = .ok (.putfield 24, 3) := by decide +kernel
theorem dX5_clear_10 : decode cX5_clear 10 = .ok (.return_, 1) := by decide +kernel
theorem dX5_put_0 : decode cX5_put 0 = .ok (.aload_n 0, 1) := by decide +kernel
theorem dX5_put_1 : decode cX5_put 1 = .ok (.getfield 28, 3) := by decide +kernel
theorem dX5_put_4 : decode cX5_put 4 = .ok (.bipush 24, 2) := by decide +kernel
theorem dX5_put_6 : decode cX5_put 6 = .ok (.if_icmp .lt 5, 3) := by decide +kernel
theorem dX5_put_9 : decode cX5_put 9 = .ok (.iconst (-1), 1) := by decide +kernel
theorem dX5_put_10 : decode cX5_put 10 = .ok (.ireturn, 1) := by decide +kernel
theorem dX5_put_11 : decode cX5_put 11 = .ok (.aload_n 0, 1) := by decide +kernel
theorem dX5_put_12 : decode cX5_put 12 = .ok (.getfield 9, 3) := by decide +kernel
theorem dX5_put_15 : decode cX5_put 15 = .ok (.aload_n 0, 1) := by decide +kernel
theorem dX5_put_16 : decode cX5_put 16 = .ok (.getfield 28, 3) := by decide +kernel
theorem dX5_put_19 : decode cX5_put 19 = .ok (.iload_n 1, 1) := by decide +kernel
theorem dX5_put_20 : decode cX5_put 20 = .ok (.iastore, 1) := by decide +kernel
theorem dX5_put_21 : decode cX5_put 21 = .ok (.aload_n 0, 1) := by decide +kernel
theorem dX5_put_22 : decode cX5_put 22 = .ok (.getfield 15, 3) := by decide +kernel
theorem dX5_put_25 : decode cX5_put 25 = .ok (.aload_n 0, 1) := by decide +kernel
theorem dX5_put_26 : decode cX5_put 26 = .ok (.getfield 28, 3) := by decide +kernel
theorem dX5_put_29 : decode cX5_put 29 = .ok (.iload_n 2, 1) := by decide +kernel
theorem dX5_put_30 : decode cX5_put 30 = .ok (.iastore, 1) := by decide +kernel
theorem dX5_put_31 : decode cX5_put 31 = .ok (.aload_n 0, 1) := by decide +kernel
theorem dX5_put_32 : decode cX5_put 32 = .ok (.getfield 18, 3) := by decide +kernel
theorem dX5_put_35 : decode cX5_put 35 = .ok (.aload_n 0, 1) := by decide +kernel
theorem dX5_put_36 : decode cX5_put 36 = .ok (.getfield 28, 3) := by decide +kernel
theorem dX5_put_39 : decode cX5_put 39 = .ok (.iload_n 3, 1) := by decide +kernel
theorem dX5_put_40 : decode cX5_put 40 = .ok (.iastore, 1) := by decide +kernel
theorem dX5_put_41 : decode cX5_put 41 = .ok (.aload_n 0, 1) := by decide +kernel
theorem dX5_put_42 : decode cX5_put 42 = .ok (.getfield 21, 3) := by decide +kernel
theorem dX5_put_45 : decode cX5_put 45 = .ok (.aload_n 0, 1) := by decide +kernel
theorem dX5_put_46 : decode cX5_put 46 = .ok (.getfield 28, 3) := by decide +kernel
theorem dX5_put_49 : decode cX5_put 49 = .ok (.iload 4, 2) := by decide +kernel
theorem dX5_put_51 : decode cX5_put 51 = .ok (.iastore, 1) := by decide +kernel
theorem dX5_put_52 : decode cX5_put 52 = .ok (.aload_n 0, 1) := by decide +kernel
theorem dX5_put_53 : decode cX5_put 53 = .ok (.dup, 1) := by decide +kernel
theorem dX5_put_54 : decode cX5_put 54 = .ok (.getfield 28, 3) := by decide +kernel
theorem dX5_put_57 : decode cX5_put 57 = .ok (.iconst 1, 1) := by decide +kernel
theorem dX5_put_58 : decode cX5_put 58 = .ok (.iadd, 1) := by decide +kernel
theorem dX5_put_59 : decode cX5_put 59 = .ok (.putfield 28, 3) := by decide +kernel
theorem dX5_put_62 : decode cX5_put 62 = .ok (.aload_n 0, 1) := by decide +kernel
theorem dX5_put_63 : decode cX5_put 63 = .ok (.getfield 28, 3) := by decide +kernel
theorem dX5_put_66 : decode cX5_put 66 = .ok (.iconst 1, 1) := by decide +kernel
theorem dX5_put_67 : decode cX5_put 67 = .ok (.isub, 1) := by decide +kernel
theorem dX5_put_68 : decode cX5_put 68 = .ok (.ireturn, 1) := by decide +kernel
theorem dX5_knownSize_0 : decode cX5_knownSize 0 = .ok (.aload_n 0, 1) := by decide +kernel
theorem dX5_knownSize_1 : decode cX5_knownSize 1 = .ok (.getfield 24, 3) := by decide +kernel
theorem dX5_knownSize_4 : decode cX5_knownSize 4 = .ok (.iconst (-1), 1) := by decide +kernel
theorem dX5_knownSize_5 : decode cX5_knownSize 5 = .ok (.if_icmp .ne 10, 3) := by decide +kernel
theorem dX5_knownSize_8 : decode cX5_knownSize 8 = .ok (.aload_n 0, 1) := by decide +kernel
theorem dX5_knownSize_9 : decode cX5_knownSize 9 = .ok (.getfield 28, 3) := by decide +kernel
theorem dX5_knownSize_12 : decode cX5_knownSize 12 = .ok (.goto 7, 3) := by decide +kernel
theorem dX5_knownSize_15 : decode cX5_knownSize 15 = .ok (.aload_n 0, 1) := by decide +kernel
theorem dX5_knownSize_16 : decode cX5_knownSize 16 = .ok (.getfield 24, 3) := by decide +kernel
theorem dX5_knownSize_19 : decode cX5_knownSize 19 = .ok (.ireturn, 1) := by decide +kernel
theorem dX5_knownBits_0 : decode cX5_knownBits 0 = .ok (.iconst 0, 1) := by decide +kernel
theorem dX5_knownBits_1 : decode cX5_knownBits 1 = .ok (.istore_n 1, 1) := by decide +kernel
theorem dX5_knownBits_2 : decode cX5_knownBits 2 = .ok (.iconst 0, 1) := by decide +kernel
theorem dX5_knownBits_3 : decode cX5_knownBits 3 = .ok (.istore_n 2, 1) := by decide +kernel
theorem dX5_knownBits_4 : decode cX5_knownBits 4 = .ok (.aload_n 0, 1) := by decide +kernel
theorem dX5_knownBits_5 : decode cX5_knownBits 5 = .ok (.invokevirtual 31, 3) := by decide +kernel
theorem dX5_knownBits_8 : decode cX5_knownBits 8 = .ok (.bipush 24, 2) := by decide +kernel
theorem dX5_knownBits_10 : decode cX5_knownBits 10 = .ok (.invokestatic 35, 3) := by decide +kernel
theorem dX5_knownBits_13 : decode cX5_knownBits 13 = .ok (.iconst 1, 1) := by decide +kernel
theorem dX5_knownBits_14 : decode cX5_knownBits 14 = .ok (.isub, 1) := by decide +kernel
theorem dX5_knownBits_15 : decode cX5_knownBits 15 = .ok (.istore_n 3, 1) := by decide +kernel
theorem dX5_knownBits_16 : decode cX5_knownBits 16 = .ok (.iload_n 3, 1) := by decide +kernel
theorem dX5_knownBits_17 : decode cX5_knownBits 17 = .ok (.ifCond .lt 51, 3) := by decide +kernel
theorem dX5_knownBits_20 : decode cX5_knownBits 20 = .ok (.iload_n 1, 1) := by decide +kernel
theorem dX5_knownBits_21 : decode cX5_knownBits 21 = .ok (.iload_n 3, 1) := by decide +kernel
theorem dX5_knownBits_22 : decode cX5_knownBits 22 = .ok (.ishr, 1) := by decide +kernel
theorem dX5_knownBits_23 : decode cX5_knownBits 23 = .ok (.iconst 1, 1) := by decide +kernel
theorem dX5_knownBits_24 : decode cX5_knownBits 24 = .ok (.iand, 1) := by decide +kernel
theorem dX5_knownBits_25 : decode cX5_knownBits 25 = .ok (.iconst 1, 1) := by decide +kernel
theorem dX5_knownBits_26 : decode cX5_knownBits 26 = .ok (.if_icmp .ne 6, 3) := by decide +kernel
theorem dX5_knownBits_29 : decode cX5_knownBits 29 = .ok (.goto 33, 3) := by decide +kernel
theorem dX5_knownBits_32 : decode cX5_knownBits 32 = .ok (.aload_n 0, 1) := by decide +kernel
theorem dX5_knownBits_33 : decode cX5_knownBits 33 = .ok (.getfield 21, 3) := by decide +kernel
theorem dX5_knownBits_36 : decode cX5_knownBits 36 = .ok (.iload_n 3, 1) := by decide +kernel
theorem dX5_knownBits_37 : decode cX5_knownBits 37 = .ok (.iaload, 1) := by decide +kernel
theorem dX5_knownBits_38 : decode cX5_knownBits 38 = .ok (.iconst 2, 1) := by decide +kernel
theorem dX5_knownBits_39 : decode cX5_knownBits 39 = .ok (.if_icmp .ne 17, 3) := by decide +kernel
theorem dX5_knownBits_42 : decode cX5_knownBits 42 = .ok (.iload_n 1, 1) := by decide +kernel
theorem dX5_knownBits_43 : decode cX5_knownBits 43 = .ok (.iconst 1, 1) := by decide +kernel
theorem dX5_knownBits_44 : decode cX5_knownBits 44 = .ok (.aload_n 0, 1) := by decide +kernel
theorem dX5_knownBits_45 : decode cX5_knownBits 45 = .ok (.getfield 9, 3) := by decide +kernel
theorem dX5_knownBits_48 : decode cX5_knownBits 48 = .ok (.iload_n 3, 1) := by decide +kernel
theorem dX5_knownBits_49 : decode cX5_knownBits 49 = .ok (.iaload, 1) := by decide +kernel
theorem dX5_knownBits_50 : decode cX5_knownBits 50 = .ok (.ishl, 1) := by decide +kernel
theorem dX5_knownBits_51 : decode cX5_knownBits 51 = .ok (.ior, 1) := by decide +kernel
theorem dX5_knownBits_52 : decode cX5_knownBits 52 = .ok (.istore_n 1, 1) := by decide +kernel
theorem dX5_knownBits_53 : decode cX5_knownBits 53 = .ok (.goto 9, 3) := by decide +kernel
theorem dX5_knownBits_56 : decode cX5_knownBits 56 = .ok (.iload_n 2, 1) := by decide +kernel
theorem dX5_knownBits_57 : decode cX5_knownBits 57 = .ok (.iconst 1, 1) := by decide +kernel
theorem dX5_knownBits_58 : decode cX5_knownBits 58 = .ok (.iload_n 3, 1) := by decide +kernel
theorem dX5_knownBits_59 : decode cX5_knownBits 59 = .ok (.ishl, 1) := by decide +kernel
theorem dX5_knownBits_60 : decode cX5_knownBits 60 = .ok (.ior, 1) := by decide +kernel
theorem dX5_knownBits_61 : decode cX5_knownBits 61 = .ok (.istore_n 2, 1) := by decide +kernel
theorem dX5_knownBits_62 : decode cX5_knownBits 62 = .ok (.iinc 3 (-1), 3) := by decide +kernel
theorem dX5_knownBits_65 : decode cX5_knownBits 65 = .ok (.goto (-49), 3) := by decide +kernel
theorem dX5_knownBits_68 : decode cX5_knownBits 68 = .ok (.iload_n 2, 1) := by decide +kernel
theorem dX5_knownBits_69 : decode cX5_knownBits 69 = .ok (.ireturn, 1) := by decide +kernel
theorem dX5_lastYearOf_0 : decode cX5_lastYearOf 0 = .ok (.iconst (-1), 1) := by decide +kernel
theorem dX5_lastYearOf_1 : decode cX5_lastYearOf 1 = .ok (.istore_n 2, 1) := by decide +kernel
theorem dX5_lastYearOf_2 : decode cX5_lastYearOf 2 = .ok (.iconst 0, 1) := by decide +kernel
theorem dX5_lastYearOf_3 : decode cX5_lastYearOf 3 = .ok (.istore_n 3, 1) := by decide +kernel
theorem dX5_lastYearOf_4 : decode cX5_lastYearOf 4 = .ok (.iload_n 3, 1) := by decide +kernel
theorem dX5_lastYearOf_5 : decode cX5_lastYearOf 5 = .ok (.aload_n 0, 1) := by decide +kernel
theorem dX5_lastYearOf_6 : decode cX5_lastYearOf 6 = .ok (.getfield 28, 3) := by decide +kernel
theorem dX5_lastYearOf_9 : decode cX5_lastYearOf 9 = .ok (.if_icmp .ge 35, 3) := by decide +kernel
theorem dX5_lastYearOf_12 : decode cX5_lastYearOf 12 = .ok (.iload_n 3, 1) := by decide +kernel
theorem dX5_lastYearOf_13 : decode cX5_lastYearOf 13 = .ok (.bipush 24, 2) := by decide +kernel
theorem dX5_lastYearOf_15 : decode cX5_lastYearOf 15 = .ok (.if_icmp .ge 29, 3) := by decide +kernel
theorem dX5_lastYearOf_18 : decode cX5_lastYearOf 18 = .ok (.iload_n 1, 1) := by decide +kernel
theorem dX5_lastYearOf_19 : decode cX5_lastYearOf 19 = .ok (.iload_n 3, 1) := by decide +kernel
theorem dX5_lastYearOf_20 : decode cX5_lastYearOf 20 = .ok (.ishr, 1) := by decide +kernel
theorem dX5_lastYearOf_21 : decode cX5_lastYearOf 21 = .ok (.iconst 1, 1) := by decide +kernel
theorem dX5_lastYearOf_22 : decode cX5_lastYearOf 22 = .ok (.iand, 1) := by decide +kernel
theorem dX5_lastYearOf_23 : decode cX5_lastYearOf 23 = .ok (.iconst 1, 1) := by decide +kernel
theorem dX5_lastYearOf_24 : decode cX5_lastYearOf 24 = .ok (.if_icmp .ne 14, 3) := by decide +kernel
theorem dX5_lastYearOf_27 : decode cX5_lastYearOf 27 = .ok (.iload_n 2, 1) := by decide +kernel
theorem dX5_lastYearOf_28 : decode cX5_lastYearOf 28 = .ok (.aload_n 0, 1) := by decide +kernel
theorem dX5_lastYearOf_29 : decode cX5_lastYearOf 29 = .ok (.getfield 9, 3) := by decide +kernel
theorem dX5_lastYearOf_32 : decode cX5_lastYearOf 32 = .ok (.iload_n 3, 1) := by decide +kernel
theorem dX5_lastYearOf_33 : decode cX5_lastYearOf 33 = .ok (.iaload, 1) := by decide +kernel
theorem dX5_lastYearOf_34 : decode cX5_lastYearOf 34 = .ok (.invokestatic 41, 3) := by decide +kernel
theorem dX5_lastYearOf_37 : decode cX5_lastYearOf 37 = .ok (.istore_n 2, 1) := by decide +kernel
theorem dX5_lastYearOf_38 : decode cX5_lastYearOf 38 = .ok (.iinc 3 1, 3) := by decide +kernel
theorem dX5_lastYearOf_41 : decode cX5_lastYearOf 41 = .ok (.goto (-37), 3) := by decide +kernel
theorem dX5_lastYearOf_44 : decode cX5_lastYearOf 44 = .ok (.iload_n 2, 1) := by decide +kernel
theorem dX5_lastYearOf_45 : decode cX5_lastYearOf 45 = .ok (.bipush 50, 2) := by decide +kernel
theorem dX5_lastYearOf_47 : decode cX5_lastYearOf 47 = .ok (.invokestatic 35, 3) := by decide +kernel
theorem dX5_lastYearOf_50 : decode cX5_lastYearOf 50 = .ok (.ireturn, 1) := by decide +kernel
theorem dX5_agree_0 : decode cX5_agree 0 = .ok (.iconst 0, 1) := by decide +kernel
theorem dX5_agree_1 : decode cX5_agree 1 = .ok (.istore 4, 2) := by decide +kernel
theorem dX5_agree_3 : decode cX5_agree 3 = .ok (.iload 4, 2) := by decide +kernel
theorem dX5_agree_5 : decode cX5_agree 5 = .ok (.aload_n 0, 1) := by decide +kernel
theorem dX5_agree_6 : decode cX5_agree 6 = .ok (.getfield 28, 3) := by decide +kernel
theorem dX5_agree_9 : decode cX5_agree 9 = .ok (.if_icmp .ge 93, 3) := by decide +kernel
theorem dX5_agree_12 : decode cX5_agree 12 = .ok (.iload 4, 2) := by decide +kernel
theorem dX5_agree_14 : decode cX5_agree 14 = .ok (.bipush 24, 2) := by decide +kernel
theorem dX5_agree_16 : decode cX5_agree 16 = .ok (.if_icmp .ge 86, 3) := by decide +kernel
theorem dX5_agree_19 : decode cX5_agree 19 = .ok (.iload_n 3, 1) := by decide +kernel
theorem dX5_agree_20 : decode cX5_agree 20 = .ok (.iload 4, 2) := by decide +kernel
theorem dX5_agree_22 : decode cX5_agree 22 = .ok (.ishr, 1) := by decide +kernel
theorem dX5_agree_23 : decode cX5_agree 23 = .ok (.iconst 1, 1) := by decide +kernel
theorem dX5_agree_24 : decode cX5_agree 24 = .ok (.iand, 1) := by decide +kernel
theorem dX5_agree_25 : decode cX5_agree 25 = .ok (.ifCond .eq 71, 3) := by decide +kernel
theorem dX5_agree_28 : decode cX5_agree 28 = .ok (.aload_n 0, 1) := by decide +kernel
theorem dX5_agree_29 : decode cX5_agree 29 = .ok (.getfield 9, 3) := by decide +kernel
theorem dX5_agree_32 : decode cX5_agree 32 = .ok (.iload 4, 2) := by decide +kernel
theorem dX5_agree_34 : decode cX5_agree 34 = .ok (.iaload, 1) := by decide +kernel
theorem dX5_agree_35 : decode cX5_agree 35 = .ok (.iload_n 2, 1) := by decide +kernel
theorem dX5_agree_36 : decode cX5_agree 36 = .ok (.if_icmp .eq 6, 3) := by decide +kernel
theorem dX5_agree_39 : decode cX5_agree 39 = .ok (.goto 57, 3) := by decide +kernel
theorem dX5_agree_42 : decode cX5_agree 42 = .ok (.aload_n 0, 1) := by decide +kernel
theorem dX5_agree_43 : decode cX5_agree 43 = .ok (.getfield 15, 3) := by decide +kernel
theorem dX5_agree_46 : decode cX5_agree 46 = .ok (.iload 4, 2) := by decide +kernel
theorem dX5_agree_48 : decode cX5_agree 48 = .ok (.iaload, 1) := by decide +kernel
theorem dX5_agree_49 : decode cX5_agree 49 = .ok (.aload_n 1, 1) := by decide +kernel
theorem dX5_agree_50 : decode cX5_agree 50 = .ok (.invokevirtual 44, 3) := by decide +kernel
theorem dX5_agree_53 : decode cX5_agree 53 = .ok (.invokestatic 49, 3) := by decide +kernel
theorem dX5_agree_56 : decode cX5_agree 56 = .ok (.aload_n 0, 1) := by decide +kernel
theorem dX5_agree_57 : decode cX5_agree 57 = .ok (.getfield 18, 3) := by decide +kernel
theorem dX5_agree_60 : decode cX5_agree 60 = .ok (.iload 4, 2) := by decide +kernel
theorem dX5_agree_62 : decode cX5_agree 62 = .ok (.iaload, 1) := by decide +kernel
theorem dX5_agree_63 : decode cX5_agree 63 = .ok (.if_icmp .lt 7, 3) := by decide +kernel
theorem dX5_agree_66 : decode cX5_agree 66 = .ok (.iconst 1, 1) := by decide +kernel
theorem dX5_agree_67 : decode cX5_agree 67 = .ok (.goto 4, 3) := by decide +kernel
theorem dX5_agree_70 : decode cX5_agree 70 = .ok (.iconst 0, 1) := by decide +kernel
theorem dX5_agree_71 : decode cX5_agree 71 = .ok (.istore 5, 2) := by decide +kernel
theorem dX5_agree_73 : decode cX5_agree 73 = .ok (.iload 5, 2) := by decide +kernel
theorem dX5_agree_75 : decode cX5_agree 75 = .ok (.aload_n 0, 1) := by decide +kernel
theorem dX5_agree_76 : decode cX5_agree 76 = .ok (.getfield 21, 3) := by decide +kernel
theorem dX5_agree_79 : decode cX5_agree 79 = .ok (.iload 4, 2) := by decide +kernel
theorem dX5_agree_81 : decode cX5_agree 81 = .ok (.iaload, 1) := by decide +kernel
theorem dX5_agree_82 : decode cX5_agree 82 = .ok (.iconst 1, 1) := by decide +kernel
theorem dX5_agree_83 : decode cX5_agree 83 = .ok (.if_icmp .ne 7, 3) := by decide +kernel
theorem dX5_agree_86 : decode cX5_agree 86 = .ok (.iconst 1, 1) := by decide +kernel
theorem dX5_agree_87 : decode cX5_agree 87 = .ok (.goto 4, 3) := by decide +kernel
theorem dX5_agree_90 : decode cX5_agree 90 = .ok (.iconst 0, 1) := by decide +kernel
theorem dX5_agree_91 : decode cX5_agree 91 = .ok (.if_icmp .eq 5, 3) := by decide +kernel
theorem dX5_agree_94 : decode cX5_agree 94 = .ok (.iconst 0, 1) := by decide +kernel
theorem dX5_agree_95 : decode cX5_agree 95 = .ok (.ireturn, 1) := by decide +kernel
theorem dX5_agree_96 : decode cX5_agree 96 = .ok (.iinc 4 1, 3) := by decide +kernel
theorem dX5_agree_99 : decode cX5_agree 99 = .ok (.goto (-96), 3) := by decide +kernel
theorem dX5_agree_102 : decode cX5_agree 102 = .ok (.iconst 1, 1) := by decide +kernel
theorem dX5_agree_103 : decode cX5_agree 103 = .ok (.ireturn, 1) := by decide +kernel
theorem dX6_init_0 : decode cX6_init 0 = .ok (.aload_n 0, 1) := by decide +kernel
theorem dX6_init_1 : decode cX6_init 1 = .ok (.invokespecial 3, 3) := by decide +kernel
theorem dX6_init_4 : decode cX6_init 4 = .ok (.aload_n 0, 1) := by decide +kernel
theorem dX6_init_5 : decode cX6_init 5 = .ok (.bipush 6, 2) := by decide +kernel
theorem dX6_init_7 : decode cX6_init 7 = .ok (.newarray .int, 2) := by decide +kernel
theorem dX6_init_9 : decode cX6_init 9 = .ok (.putfield 9, 3) := by decide +kernel
theorem dX6_init_12 : decode cX6_init 12 = .ok (.aload_n 0, 1) := by decide +kernel
theorem dX6_init_13 : decode cX6_init 13 = .ok (.bipush 6, 2) := by decide +kernel
theorem dX6_init_15 : decode cX6_init 15 = .ok (.newarray .int, 2) := by decide +kernel
theorem dX6_init_17 : decode cX6_init 17 = .ok (.putfield 15, 3) := by decide +kernel
theorem dX6_init_20 : decode cX6_init 20 = .ok (.aload_n 0, 1) := by decide +kernel
theorem dX6_init_21 : decode cX6_init 21 = .ok (.bipush 6, 2) := by decide +kernel
theorem dX6_init_23 : decode cX6_init 23 = .ok (.newarray .int, 2) := by decide +kernel
theorem dX6_init_25 : decode cX6_init 25 = .ok (.putfield 18, 3) := by decide +kernel
theorem dX6_init_28 : decode cX6_init 28 = .ok (.aload_n 0, 1) := by decide +kernel
theorem dX6_init_29 : decode cX6_init 29 = .ok (.bipush 8, 2) := by decide +kernel
theorem dX6_init_31 : decode cX6_init 31 = .ok (.newarray .int, 2) := by decide +kernel
theorem dX6_init_33 : decode cX6_init 33 = .ok (.putfield 21, 3) := by decide +kernel
theorem dX6_init_36 : decode cX6_init 36 = .ok (.aload_n 0, 1) := by decide +kernel
theorem dX6_init_37 : decode cX6_init 37 = .ok (.bipush 8, 2) := by decide +kernel
theorem dX6_init_39 : decode cX6_init 39 = .ok (.newarray .int, 2) := by decide +kernel
theorem dX6_init_41 : decode cX6_init 41 = .ok (.putfield 24, 3) := by decide +kernel
theorem dX6_init_44 : decode cX6_init 44 = .ok (.aload_n 0, 1) := by decide +kernel
theorem dX6_init_45 : decode cX6_init 45 = .ok (.bipush 8, 2) := by decide +kernel
theorem dX6_init_47 : decode cX6_init 47 = .ok (.newarray .int, 2) := by decide +kernel
theorem dX6_init_49 : decode cX6_init 49 = .ok (.putfield 27, 3) := by decide +kernel
theorem dX6_init_52 : decode cX6_init 52 = .ok (.aload_n 0, 1) := by decide +kernel
theorem dX6_init_53 : decode cX6_init 53 = .ok (.new 30, 3) := by decide +kernel
theorem dX6_init_56 : decode cX6_init 56 = .ok (.dup, 1) := by decide +kernel
theorem dX6_init_57 : decode cX6_init 57 = .ok (.invokespecial 32, 3) := by decide +kernel
theorem dX6_init_60 : decode cX6_init 60 = .ok (.putfield 33, 3) := by decide +kernel
theorem dX6_init_63 : decode cX6_init 63 = .ok (.aload_n 0, 1) := by decide +kernel
theorem dX6_init_64 : decode cX6_init 64 = .ok (.invokevirtual 37, 3) := by decide +kernel
theorem dX6_init_67 : decode cX6_init 67 = .ok (.return_, 1) := by decide +kernel
theorem dX6_clear_0 : decode cX6_clear 0 = .ok (.aload_n 0, 1) := by decide +kernel
theorem dX6_clear_1 : decode cX6_clear 1 = .ok (.iconst 0, 1) := by decide +kernel
theorem dX6_clear_2 : decode cX6_clear 2 = .ok (.putfield 40, 3) := by decide +kernel
theorem dX6_clear_5 : decode cX6_clear 5 = .ok (.aload_n 0, 1) := by decide +kernel
theorem dX6_clear_6 : decode cX6_clear 6 = .ok (.iconst 0, 1) := by decide +kernel
theorem dX6_clear_7 : decode cX6_clear 7 = .ok (.putfield 44, 3) := by decide +kernel
theorem dX6_clear_10 : decode cX6_clear 10 = .ok (.aload_n 0, 1) := by decide +kernel
theorem dX6_clear_11 : decode cX6_clear 11 = .ok (.getfield 33, 3) := by decide +kernel
theorem dX6_clear_14 : decode cX6_clear 14 = .ok (.invokevirtual 47, 3) := by decide +kernel
theorem dX6_clear_17 : decode cX6_clear 17 = .ok (.aload_n 0, 1) := by decide +kernel
theorem dX6_clear_18 : decode cX6_clear 18 = .ok (.iconst 0, 1) := by decide +kernel
theorem dX6_clear_19 : decode cX6_clear 19 = .ok (.putfield 48, 3) := by decide +kernel
theorem dX6_clear_22 : decode cX6_clear 22 = .ok (.aload_n 0, 1) := by decide +kernel
theorem dX6_clear_23 : decode cX6_clear 23 = .ok (.iconst 0, 1) := by decide +kernel
theorem dX6_clear_24 : decode cX6_clear 24 = .ok (.putfield 51, 3) := by decide +kernel
theorem dX6_clear_27 : decode cX6_clear 27 = .ok (.aload_n 0, 1) := by decide +kernel
theorem dX6_clear_28 : decode cX6_clear 28 = .ok (.iconst 0, 1) := by decide +kernel
theorem dX6_clear_29 : decode cX6_clear 29 = .ok (.putfield 54, 3) := by decide +kernel
theorem dX6_clear_32 : decode cX6_clear 32 = .ok (.aload_n 0, 1) := by decide +kernel
theorem dX6_clear_33 : decode cX6_clear 33 = .ok (.iconst 0, 1) := by decide +kernel
theorem dX6_clear_34 : decode cX6_clear 34 = .ok (.putfield 58, 3) := by decide +kernel
theorem dX6_clear_37 : decode cX6_clear 37 = .ok (.return_, 1) := by decide +kernel
theorem dX6_personNamed_0 : decode cX6_personNamed 0 = .ok (.iconst 0, 1) := by decide +kernel
theorem dX6_personNamed_1 : decode cX6_personNamed 1 = .ok (.istore_n 2, 1) := by decide +kernel
theorem dX6_personNamed_2 : decode cX6_personNamed 2 = .ok (.iload_n 2, 1) := by decide +kernel
theorem dX6_personNamed_3 : decode cX6_personNamed 3 = .ok (.aload_n 0, 1) := by decide +kernel
theorem dX6_personNamed_4 : decode cX6_personNamed 4 = .ok (.getfield 40, 3) := by decide +kernel
theorem dX6_personNamed_7 : decode cX6_personNamed 7 = .ok (.if_icmp .ge 27, 3) := by decide +kernel
theorem dX6_personNamed_10 : decode cX6_personNamed 10 = .ok (.iload_n 2, 1) := by decide +kernel
theorem dX6_personNamed_11 : decode cX6_personNamed 11 = .ok (.bipush 6, 2) := by decide +kernel
theorem dX6_personNamed_13 : decode cX6_personNamed 13 = .ok (.if_icmp .ge 21, 3) := by decide +kernel
theorem dX6_personNamed_16 : decode cX6_personNamed 16 = .ok (.aload_n 0, 1) := by decide +kernel
theorem dX6_personNamed_17 : decode cX6_personNamed 17 = .ok (.getfield 9, 3) := by decide +kernel
theorem dX6_personNamed_20 : decode cX6_personNamed 20 = .ok (.iload_n 2, 1) := by decide +kernel
theorem dX6_personNamed_21 : decode cX6_personNamed 21 = .ok (.iaload, 1) := by decide +kernel
theorem dX6_personNamed_22 : decode cX6_personNamed 22 = .ok (.iload_n 1, 1) := by decide +kernel
theorem dX6_personNamed_23 : decode cX6_personNamed 23 = .ok (.if_icmp .ne 5, 3) := by decide +kernel
theorem dX6_personNamed_26 : decode cX6_personNamed 26 = .ok (.iload_n 2, 1) := by decide +kernel
theorem dX6_personNamed_27 : decode cX6_personNamed 27 = .ok (.ireturn, 1) := by decide +kernel
theorem dX6_personNamed_28 : decode cX6_personNamed 28 = .ok (.iinc 2 1, 3) := by decide +kernel
theorem dX6_personNamed_31 : decode cX6_personNamed 31 = .ok (.goto (-29), 3) := by decide +kernel
theorem dX6_personNamed_34 : decode cX6_personNamed 34 = .ok (.iconst (-1), 1) := by decide +kernel
theorem dX6_personNamed_35 : decode cX6_personNamed 35 = .ok (.ireturn, 1) := by decide +kernel
theorem dX6_addPerson_0 : decode cX6_addPerson 0 = .ok (.aload_n 0, 1) := by decide +kernel
theorem dX6_addPerson_1 : decode cX6_addPerson 1 = .ok (.getfield 40, 3) := by decide +kernel
theorem dX6_addPerson_4 : decode cX6_addPerson 4 = .ok (.bipush 6, 2) := by decide +kernel
theorem dX6_addPerson_6 : decode cX6_addPerson 6 = .ok (.if_icmp .ge 43, 3) := by decide +kernel
theorem dX6_addPerson_9 : decode cX6_addPerson 9 = .ok (.aload_n 0, 1) := by decide +kernel
theorem dX6_addPerson_10 : decode cX6_addPerson 10 = .ok (.getfield 9, 3) := by decide +kernel
theorem dX6_addPerson_13 : decode cX6_addPerson 13 = .ok (.aload_n 0, 1) := by decide +kernel
theorem dX6_addPerson_14 : decode cX6_addPerson 14 = .ok (.getfield 40, 3) := by decide +kernel
theorem dX6_addPerson_17 : decode cX6_addPerson 17 = .ok (.iload_n 1, 1) := by decide +kernel
theorem dX6_addPerson_18 : decode cX6_addPerson 18 = .ok (.iastore, 1) := by decide +kernel
theorem dX6_addPerson_19 : decode cX6_addPerson 19 = .ok (.aload_n 0, 1) := by decide +kernel
theorem dX6_addPerson_20 : decode cX6_addPerson 20 = .ok (.getfield 15, 3) := by decide +kernel
theorem dX6_addPerson_23 : decode cX6_addPerson 23 = .ok (.aload_n 0, 1) := by decide +kernel
theorem dX6_addPerson_24 : decode cX6_addPerson 24 = .ok (.getfield 40, 3) := by decide +kernel
theorem dX6_addPerson_27 : decode cX6_addPerson 27 = .ok (.iload_n 2, 1) := by decide +kernel
theorem dX6_addPerson_28 : decode cX6_addPerson 28 = .ok (.iastore, 1) := by decide +kernel
theorem dX6_addPerson_29 : decode cX6_addPerson 29 = .ok (.aload_n 0, 1) := by decide +kernel
theorem dX6_addPerson_30 : decode cX6_addPerson 30 = .ok (.getfield 18, 3) := by decide +kernel
theorem dX6_addPerson_33 : decode cX6_addPerson 33 = .ok (.aload_n 0, 1) := by decide +kernel
theorem dX6_addPerson_34 : decode cX6_addPerson 34 = .ok (.getfield 40, 3) := by decide +kernel
theorem dX6_addPerson_37 : decode cX6_addPerson 37 = .ok (.iload_n 3, 1) := by decide +kernel
theorem dX6_addPerson_38 : decode cX6_addPerson 38 = .ok (.iastore, 1) := by decide +kernel
theorem dX6_addPerson_39 : decode cX6_addPerson 39 = .ok (.aload_n 0, 1) := by decide +kernel
theorem dX6_addPerson_40 : decode cX6_addPerson 40 = .ok (.dup, 1) := by decide +kernel
theorem dX6_addPerson_41 : decode cX6_addPerson 41 = .ok (.getfield 40, 3) := by decide +kernel
theorem dX6_addPerson_44 : decode cX6_addPerson 44 = .ok (.iconst 1, 1) := by decide +kernel
theorem dX6_addPerson_45 : decode cX6_addPerson 45 = .ok (.iadd, 1) := by decide +kernel
theorem dX6_addPerson_46 : decode cX6_addPerson 46 = .ok (.putfield 40, 3) := by decide +kernel
theorem dX6_addPerson_49 : decode cX6_addPerson 49 = .ok (.return_, 1) := by decide +kernel
theorem dX6_addCrossing_0 : decode cX6_addCrossing 0 = .ok (.aload_n 0, 1) := by decide +kernel
theorem dX6_addCrossing_1 : decode cX6_addCrossing 1 = .ok (.getfield 44, 3) := by decide +kernel
theorem dX6_addCrossing_4 : decode cX6_addCrossing 4 = .ok (.bipush 8, 2) := by decide +kernel
theorem dX6_addCrossing_6 : decode cX6_addCrossing 6 = .ok (.if_icmp .ge 43, 3) := by decide +kernel
theorem dX6_addCrossing_9 : decode cX6_addCrossing 9 = .ok (.aload_n 0, 1) := by decide +kernel
theorem dX6_addCrossing_10 : decode cX6_addCrossing 10 = .ok (.getfield 21, 3) := by decide +kernel
theorem dX6_addCrossing_13 : decode cX6_addCrossing 13 = .ok (.aload_n 0, 1) := by decide +kernel
theorem dX6_addCrossing_14 : decode cX6_addCrossing 14 = .ok (.getfield 44, 3) := by decide +kernel
theorem dX6_addCrossing_17 : decode cX6_addCrossing 17 = .ok (.iload_n 1, 1) := by decide +kernel
theorem dX6_addCrossing_18 : decode cX6_addCrossing 18 = .ok (.iastore, 1) := by decide +kernel
theorem dX6_addCrossing_19 : decode cX6_addCrossing 19 = .ok (.aload_n 0, 1) := by decide +kernel
theorem dX6_addCrossing_20 : decode cX6_addCrossing 20 = .ok (.getfield 24, 3) := by decide +kernel
theorem dX6_addCrossing_23 : decode cX6_addCrossing 23 = .ok (.aload_n 0, 1) := by decide +kernel
theorem dX6_addCrossing_24 : decode cX6_addCrossing 24 = .ok (.getfield 44, 3) := by decide +kernel
theorem dX6_addCrossing_27 : decode cX6_addCrossing 27 = .ok (.iload_n 2, 1) := by decide +kernel
theorem dX6_addCrossing_28 : decode cX6_addCrossing 28 = .ok (.iastore, 1) := by decide +kernel
theorem dX6_addCrossing_29 : decode cX6_addCrossing 29 = .ok (.aload_n 0, 1) := by decide +kernel
theorem dX6_addCrossing_30 : decode cX6_addCrossing 30 = .ok (.getfield 27, 3) := by decide +kernel
theorem dX6_addCrossing_33 : decode cX6_addCrossing 33 = .ok (.aload_n 0, 1) := by decide +kernel
theorem dX6_addCrossing_34 : decode cX6_addCrossing 34 = .ok (.getfield 44, 3) := by decide +kernel
theorem dX6_addCrossing_37 : decode cX6_addCrossing 37 = .ok (.iload_n 3, 1) := by decide +kernel
theorem dX6_addCrossing_38 : decode cX6_addCrossing 38 = .ok (.iastore, 1) := by decide +kernel
theorem dX6_addCrossing_39 : decode cX6_addCrossing 39 = .ok (.aload_n 0, 1) := by decide +kernel
theorem dX6_addCrossing_40 : decode cX6_addCrossing 40 = .ok (.dup, 1) := by decide +kernel
theorem dX6_addCrossing_41 : decode cX6_addCrossing 41 = .ok (.getfield 44, 3) := by decide +kernel
theorem dX6_addCrossing_44 : decode cX6_addCrossing 44 = .ok (.iconst 1, 1) := by decide +kernel
theorem dX6_addCrossing_45 : decode cX6_addCrossing 45 = .ok (.iadd, 1) := by decide +kernel
theorem dX6_addCrossing_46 : decode cX6_addCrossing 46 = .ok (.putfield 44, 3) := by decide +kernel
theorem dX6_addCrossing_49 : decode cX6_addCrossing 49 = .ok (.return_, 1) := by decide +kernel
theorem dX7_init_0 : decode cX7_init 0 = .ok (.aload_n 0, 1) := by decide +kernel
theorem dX7_init_1 : decode cX7_init 1 = .ok (.invokespecial 3, 3) := by decide +kernel
theorem dX7_init_4 : decode cX7_init 4 = .ok (.aload_n 0, 1) := by decide +kernel
theorem dX7_init_5 : decode cX7_init 5 = .ok (.new 9, 3) := by decide +kernel
theorem dX7_init_8 : decode cX7_init 8 = .ok (.dup, 1) := by decide +kernel
theorem dX7_init_9 : decode cX7_init 9 = .ok (.invokespecial 11, 3) := by decide +kernel
theorem dX7_init_12 : decode cX7_init 12 = .ok (.putfield 12, 3) := by decide +kernel
theorem dX7_init_15 : decode cX7_init 15 = .ok (.aload_n 0, 1) := by decide +kernel
theorem dX7_init_16 : decode cX7_init 16 = .ok (.new 18, 3) := by decide +kernel
theorem dX7_init_19 : decode cX7_init 19 = .ok (.dup, 1) := by decide +kernel
theorem dX7_init_20 : decode cX7_init 20 = .ok (.aload_n 0, 1) := by decide +kernel
theorem dX7_init_21 : decode cX7_init 21 = .ok (.getfield 12, 3) := by decide +kernel
theorem dX7_init_24 : decode cX7_init 24 = .ok (.invokespecial 20, 3) := by decide +kernel
theorem dX7_init_27 : decode cX7_init 27 = .ok (.putfield 23, 3) := by decide +kernel
theorem dX7_init_30 : decode cX7_init 30 = .ok (.aload_n 0, 1) := by decide +kernel
theorem dX7_init_31 : decode cX7_init 31 = .ok (.new 27, 3) := by decide +kernel
theorem dX7_init_34 : decode cX7_init 34 = .ok (.dup, 1) := by decide +kernel
theorem dX7_init_35 : decode cX7_init 35 = .ok (.aload_n 1, 1) := by decide +kernel
theorem dX7_init_36 : decode cX7_init 36 = .ok (.invokespecial 29, 3) := by decide +kernel
theorem dX7_init_39 : decode cX7_init 39 = .ok (.putfield 32, 3) := by decide +kernel
theorem dX7_init_42 : decode cX7_init 42 = .ok (.aload_n 0, 1) := by decide +kernel
theorem dX7_init_43 : decode cX7_init 43 = .ok (.new 36, 3) := by decide +kernel
theorem dX7_init_46 : decode cX7_init 46 = .ok (.dup, 1) := by decide +kernel
theorem dX7_init_47 : decode cX7_init 47 = .ok (.aload_n 0, 1) := by decide +kernel
theorem dX7_init_48 : decode cX7_init 48 = .ok (.getfield 32, 3) := by decide +kernel
theorem dX7_init_51 : decode cX7_init 51 = .ok (.invokespecial 38, 3) := by decide +kernel
theorem dX7_init_54 : decode cX7_init 54 = .ok (.putfield 41, 3) := by decide +kernel
theorem dX7_init_57 : decode cX7_init 57 = .ok (.return_, 1) := by decide +kernel
theorem dX7_begin_0 : decode cX7_begin 0 = .ok (.aload_n 0, 1) := by decide +kernel
theorem dX7_begin_1 : decode cX7_begin 1 = .ok (.iconst 0, 1) := by decide +kernel
theorem dX7_begin_2 : decode cX7_begin 2 = .ok (.putfield 45, 3) := by decide +kernel
theorem dX7_begin_5 : decode cX7_begin 5 = .ok (.aload_n 0, 1) := by decide +kernel
theorem dX7_begin_6 : decode cX7_begin 6 = .ok (.iconst (-1), 1) := by decide +kernel
theorem dX7_begin_7 : decode cX7_begin 7 = .ok (.putfield 49, 3) := by decide +kernel
theorem dX7_begin_10 : decode cX7_begin 10 = .ok (.aload_n 0, 1) := by decide +kernel
theorem dX7_begin_11 : decode cX7_begin 11 = .ok (.getfield 12, 3) := by decide +kernel
theorem dX7_begin_14 : decode cX7_begin 14 = .ok (.invokevirtual 52, 3) := by decide +kernel
theorem dX7_begin_17 : decode cX7_begin 17 = .ok (.aload_n 0, 1) := by decide +kernel
theorem dX7_begin_18 : decode cX7_begin 18 = .ok (.getfield 23, 3) := by decide +kernel
theorem dX7_begin_21 : decode cX7_begin 21 = .ok (.aload_n 0, 1) := by decide +kernel
theorem dX7_begin_22 : decode cX7_begin 22 = .ok (.getfield 12, 3) := by decide +kernel
theorem dX7_begin_25 : decode cX7_begin 25 = .ok (.invokevirtual 55, 3) := by decide +kernel
theorem dX7_begin_28 : decode cX7_begin 28 = .ok (.aload_n 0, 1) := by decide +kernel
theorem dX7_begin_29 : decode cX7_begin 29 = .ok (.getfield 32, 3) := by decide +kernel
theorem dX7_begin_32 : decode cX7_begin 32 = .ok (.iload_n 1, 1) := by decide +kernel
theorem dX7_begin_33 : decode cX7_begin 33 = .ok (.invokevirtual 57, 3) := by decide +kernel
theorem dX7_begin_36 : decode cX7_begin 36 = .ok (.return_, 1) := by decide +kernel
theorem dX7_hasMore_0 : decode cX7_hasMore 0 = .ok (.aload_n 0, 1) := by decide +kernel
theorem dX7_hasMore_1 : decode cX7_hasMore 1 = .ok (.getfield 32, 3) := by decide +kernel
theorem dX7_hasMore_4 : decode cX7_hasMore 4 = .ok (.getfield 61, 3) := by decide +kernel
theorem dX7_hasMore_7 : decode cX7_hasMore 7 = .ok (.bipush 38, 2) := by decide +kernel
theorem dX7_hasMore_9 : decode cX7_hasMore 9 = .ok (.if_icmp .eq 7, 3) := by decide +kernel
theorem dX7_hasMore_12 : decode cX7_hasMore 12 = .ok (.iconst 1, 1) := by decide +kernel
theorem dX7_hasMore_13 : decode cX7_hasMore 13 = .ok (.goto 4, 3) := by decide +kernel
theorem dX7_hasMore_16 : decode cX7_hasMore 16 = .ok (.iconst 0, 1) := by decide +kernel
theorem dX7_hasMore_17 : decode cX7_hasMore 17 = .ok (.ireturn, 1) := by decide +kernel
theorem dX7_tellLine_0 : decode cX7_tellLine 0 = .ok (.aload_n 0, 1) := by decide +kernel
theorem dX7_tellLine_1 : decode cX7_tellLine 1 = .ok (.getfield 32, 3) := by decide +kernel
theorem dX7_tellLine_4 : decode cX7_tellLine 4 = .ok (.getfield 61, 3) := by decide +kernel
theorem dX7_tellLine_7 : decode cX7_tellLine 7 = .ok (.tableswitch 97 0 6 #[41, 49, 57, 65, 73, 81, 89], 41) := by decide +kernel
theorem dX7_tellLine_48 : decode cX7_tellLine 48 = .ok (.aload_n 0, 1) := by decide +kernel
theorem dX7_tellLine_49 : decode cX7_tellLine 49 = .ok (.invokevirtual 64, 3) := by decide +kernel
theorem dX7_tellLine_52 : decode cX7_tellLine 52 = .ok (.istore_n 1, 1) := by decide +kernel
theorem dX7_tellLine_53 : decode cX7_tellLine 53 = .ok (.goto 57, 3) := by decide +kernel
theorem dX7_tellLine_56 : decode cX7_tellLine 56 = .ok (.aload_n 0, 1) := by decide +kernel
theorem dX7_tellLine_57 : decode cX7_tellLine 57 = .ok (.invokevirtual 68, 3) := by decide +kernel
theorem dX7_tellLine_60 : decode cX7_tellLine 60 = .ok (.istore_n 1, 1) := by decide +kernel
theorem dX7_tellLine_61 : decode cX7_tellLine 61 = .ok (.goto 49, 3) := by decide +kernel
theorem dX7_tellLine_64 : decode cX7_tellLine 64 = .ok (.aload_n 0, 1) := by decide +kernel
theorem dX7_tellLine_65 : decode cX7_tellLine 65 = .ok (.invokevirtual 71, 3) := by decide +kernel
theorem dX7_tellLine_68 : decode cX7_tellLine 68 = .ok (.istore_n 1, 1) := by decide +kernel
theorem dX7_tellLine_69 : decode cX7_tellLine 69 = .ok (.goto 41, 3) := by decide +kernel
theorem dX7_tellLine_72 : decode cX7_tellLine 72 = .ok (.aload_n 0, 1) := by decide +kernel
theorem dX7_tellLine_73 : decode cX7_tellLine 73 = .ok (.invokevirtual 74, 3) := by decide +kernel
theorem dX7_tellLine_76 : decode cX7_tellLine 76 = .ok (.istore_n 1, 1) := by decide +kernel
theorem dX7_tellLine_77 : decode cX7_tellLine 77 = .ok (.goto 33, 3) := by decide +kernel
theorem dX7_tellLine_80 : decode cX7_tellLine 80 = .ok (.aload_n 0, 1) := by decide +kernel
theorem dX7_tellLine_81 : decode cX7_tellLine 81 = .ok (.invokevirtual 77, 3) := by decide +kernel
theorem dX7_tellLine_84 : decode cX7_tellLine 84 = .ok (.istore_n 1, 1) := by decide +kernel
theorem dX7_tellLine_85 : decode cX7_tellLine 85 = .ok (.goto 25, 3) := by decide +kernel
theorem dX7_tellLine_88 : decode cX7_tellLine 88 = .ok (.aload_n 0, 1) := by decide +kernel
theorem dX7_tellLine_89 : decode cX7_tellLine 89 = .ok (.invokevirtual 80, 3) := by decide +kernel
theorem dX7_tellLine_92 : decode cX7_tellLine 92 = .ok (.istore_n 1, 1) := by decide +kernel
theorem dX7_tellLine_93 : decode cX7_tellLine 93 = .ok (.goto 17, 3) := by decide +kernel
theorem dX7_tellLine_96 : decode cX7_tellLine 96 = .ok (.aload_n 0, 1) := by decide +kernel
theorem dX7_tellLine_97 : decode cX7_tellLine 97 = .ok (.invokevirtual 83, 3) := by decide +kernel
theorem dX7_tellLine_100 : decode cX7_tellLine 100 = .ok (.istore_n 1, 1) := by decide +kernel
theorem dX7_tellLine_101 : decode cX7_tellLine 101 = .ok (.goto 9, 3) := by decide +kernel
theorem dX7_tellLine_104 : decode cX7_tellLine 104 = .ok (.aload_n 0, 1) := by decide +kernel
theorem dX7_tellLine_105 : decode cX7_tellLine 105 = .ok (.iconst 1, 1) := by decide +kernel
theorem dX7_tellLine_106 : decode cX7_tellLine 106 = .ok (.invokevirtual 86, 3) := by decide +kernel
theorem dX7_tellLine_109 : decode cX7_tellLine 109 = .ok (.ireturn, 1) := by decide +kernel
theorem dX7_tellLine_110 : decode cX7_tellLine 110 = .ok (.aload_n 0, 1) := by decide +kernel
theorem dX7_tellLine_111 : decode cX7_tellLine 111 = .ok (.getfield 12, 3) := by decide +kernel
theorem dX7_tellLine_114 : decode cX7_tellLine 114 = .ok (.dup, 1) := by decide +kernel
theorem dX7_tellLine_115 : decode cX7_tellLine 115 = .ok (.getfield 90, 3) := by decide +kernel
theorem dX7_tellLine_118 : decode cX7_tellLine 118 = .ok (.iconst 1, 1) := by decide +kernel
theorem dX7_tellLine_119 : decode cX7_tellLine 119 = .ok (.iadd, 1) := by decide +kernel
theorem dX7_tellLine_120 : decode cX7_tellLine 120 = .ok (.putfield 90, 3) := by decide +kernel
theorem dX7_tellLine_123 : decode cX7_tellLine 123 = .ok (.iload_n 1, 1) := by decide +kernel
theorem dX7_tellLine_124 : decode cX7_tellLine 124 = .ok (.ifCond .eq 16, 3) := by decide +kernel
theorem dX7_tellLine_127 : decode cX7_tellLine 127 = .ok (.aload_n 0, 1) := by decide +kernel
theorem dX7_tellLine_128 : decode cX7_tellLine 128 = .ok (.bipush 35, 2) := by decide +kernel
theorem dX7_tellLine_130 : decode cX7_tellLine 130 = .ok (.invokevirtual 93, 3) := by decide +kernel
theorem dX7_tellLine_133 : decode cX7_tellLine 133 = .ok (.ifCond .eq 7, 3) := by decide +kernel
theorem dX7_tellLine_136 : decode cX7_tellLine 136 = .ok (.iconst 1, 1) := by decide +kernel
theorem dX7_tellLine_137 : decode cX7_tellLine 137 = .ok (.goto 4, 3) := by decide +kernel
theorem dX7_tellLine_140 : decode cX7_tellLine 140 = .ok (.iconst 0, 1) := by decide +kernel
theorem dX7_tellLine_141 : decode cX7_tellLine 141 = .ok (.ireturn, 1) := by decide +kernel
theorem dX7_fail_0 : decode cX7_fail 0 = .ok (.aload_n 0, 1) := by decide +kernel
theorem dX7_fail_1 : decode cX7_fail 1 = .ok (.iload_n 1, 1) := by decide +kernel
theorem dX7_fail_2 : decode cX7_fail 2 = .ok (.putfield 45, 3) := by decide +kernel
theorem dX7_fail_5 : decode cX7_fail 5 = .ok (.aload_n 0, 1) := by decide +kernel
theorem dX7_fail_6 : decode cX7_fail 6 = .ok (.aload_n 0, 1) := by decide +kernel
theorem dX7_fail_7 : decode cX7_fail 7 = .ok (.getfield 32, 3) := by decide +kernel
theorem dX7_fail_10 : decode cX7_fail 10 = .ok (.getfield 96, 3) := by decide +kernel
theorem dX7_fail_13 : decode cX7_fail 13 = .ok (.putfield 49, 3) := by decide +kernel
theorem dX7_fail_16 : decode cX7_fail 16 = .ok (.iconst 0, 1) := by decide +kernel
theorem dX7_fail_17 : decode cX7_fail 17 = .ok (.ireturn, 1) := by decide +kernel
theorem dX7_skip_0 : decode cX7_skip 0 = .ok (.aload_n 0, 1) := by decide +kernel
theorem dX7_skip_1 : decode cX7_skip 1 = .ok (.getfield 32, 3) := by decide +kernel
theorem dX7_skip_4 : decode cX7_skip 4 = .ok (.getfield 61, 3) := by decide +kernel
theorem dX7_skip_7 : decode cX7_skip 7 = .ok (.iload_n 1, 1) := by decide +kernel
theorem dX7_skip_8 : decode cX7_skip 8 = .ok (.if_icmp .eq 9, 3) := by decide +kernel
theorem dX7_skip_11 : decode cX7_skip 11 = .ok (.aload_n 0, 1) := by decide +kernel
theorem dX7_skip_12 : decode cX7_skip 12 = .ok (.iconst 1, 1) := by decide +kernel
theorem dX7_skip_13 : decode cX7_skip 13 = .ok (.invokevirtual 86, 3) := by decide +kernel
theorem dX7_skip_16 : decode cX7_skip 16 = .ok (.ireturn, 1) := by decide +kernel
theorem dX7_skip_17 : decode cX7_skip 17 = .ok (.aload_n 0, 1) := by decide +kernel
theorem dX7_skip_18 : decode cX7_skip 18 = .ok (.getfield 32, 3) := by decide +kernel
theorem dX7_skip_21 : decode cX7_skip 21 = .ok (.invokevirtual 99, 3) := by decide +kernel
theorem dX7_skip_24 : decode cX7_skip 24 = .ok (.iconst 1, 1) := by decide +kernel
theorem dX7_skip_25 : decode cX7_skip 25 = .ok (.ireturn, 1) := by decide +kernel
theorem dX7_open_0 : decode cX7_open 0 = .ok (.iload_n 1, 1) := by decide +kernel
theorem dX7_open_1 : decode cX7_open 1 = .ok (.iload_n 2, 1) := by decide +kernel
theorem dX7_open_2 : decode cX7_open 2 = .ok (.if_icmp .lt 9, 3) := by decide +kernel
theorem dX7_open_5 : decode cX7_open 5 = .ok (.aload_n 0, 1) := by decide +kernel
theorem dX7_open_6 : decode cX7_open 6 = .ok (.iconst 2, 1) := by decide +kernel
theorem dX7_open_7 : decode cX7_open 7 = .ok (.invokevirtual 86, 3) := by decide +kernel
theorem dX7_open_10 : decode cX7_open 10 = .ok (.ireturn, 1) := by decide +kernel
theorem dX7_open_11 : decode cX7_open 11 = .ok (.aload_n 0, 1) := by decide +kernel
theorem dX7_open_12 : decode cX7_open 12 = .ok (.getfield 32, 3) := by decide +kernel
theorem dX7_open_15 : decode cX7_open 15 = .ok (.invokevirtual 99, 3) := by decide +kernel
theorem dX7_open_18 : decode cX7_open 18 = .ok (.iconst 1, 1) := by decide +kernel
theorem dX7_open_19 : decode cX7_open 19 = .ok (.ireturn, 1) := by decide +kernel
theorem dX7_number_0 : decode cX7_number 0 = .ok (.aload_n 0, 1) := by decide +kernel
theorem dX7_number_1 : decode cX7_number 1 = .ok (.getfield 32, 3) := by decide +kernel
theorem dX7_number_4 : decode cX7_number 4 = .ok (.getfield 61, 3) := by decide +kernel
theorem dX7_number_7 : decode cX7_number 7 = .ok (.bipush 36, 2) := by decide +kernel
theorem dX7_number_9 : decode cX7_number 9 = .ok (.if_icmp .eq 9, 3) := by decide +kernel
theorem dX7_number_12 : decode cX7_number 12 = .ok (.aload_n 0, 1) := by decide +kernel
theorem dX7_number_13 : decode cX7_number 13 = .ok (.iconst 1, 1) := by decide +kernel
theorem dX7_number_14 : decode cX7_number 14 = .ok (.invokevirtual 86, 3) := by decide +kernel
theorem dX7_number_17 : decode cX7_number 17 = .ok (.ireturn, 1) := by decide +kernel
theorem dX7_number_18 : decode cX7_number 18 = .ok (.aload_n 0, 1) := by decide +kernel
theorem dX7_number_19 : decode cX7_number 19 = .ok (.getfield 32, 3) := by decide +kernel
theorem dX7_number_22 : decode cX7_number 22 = .ok (.getfield 102, 3) := by decide +kernel
theorem dX7_number_25 : decode cX7_number 25 = .ok (.iload_n 1, 1) := by decide +kernel
theorem dX7_number_26 : decode cX7_number 26 = .ok (.if_icmp .lt 14, 3) := by decide +kernel
theorem dX7_number_29 : decode cX7_number 29 = .ok (.aload_n 0, 1) := by decide +kernel
theorem dX7_number_30 : decode cX7_number 30 = .ok (.getfield 32, 3) := by decide +kernel
theorem dX7_number_33 : decode cX7_number 33 = .ok (.getfield 102, 3) := by decide +kernel
theorem dX7_number_36 : decode cX7_number 36 = .ok (.iload_n 2, 1) := by decide +kernel
theorem dX7_number_37 : decode cX7_number 37 = .ok (.if_icmp .le 9, 3) := by decide +kernel
theorem dX7_number_40 : decode cX7_number 40 = .ok (.aload_n 0, 1) := by decide +kernel
theorem dX7_number_41 : decode cX7_number 41 = .ok (.iconst 2, 1) := by decide +kernel
theorem dX7_number_42 : decode cX7_number 42 = .ok (.invokevirtual 86, 3) := by decide +kernel
theorem dX7_number_45 : decode cX7_number 45 = .ok (.ireturn, 1) := by decide +kernel
theorem dX7_number_46 : decode cX7_number 46 = .ok (.aload_n 0, 1) := by decide +kernel
theorem dX7_number_47 : decode cX7_number 47 = .ok (.aload_n 0, 1) := by decide +kernel
theorem dX7_number_48 : decode cX7_number 48 = .ok (.getfield 32, 3) := by decide +kernel
theorem dX7_number_51 : decode cX7_number 51 = .ok (.getfield 102, 3) := by decide +kernel
theorem dX7_number_54 : decode cX7_number 54 = .ok (.putfield 105, 3) := by decide +kernel
theorem dX7_number_57 : decode cX7_number 57 = .ok (.aload_n 0, 1) := by decide +kernel
theorem dX7_number_58 : decode cX7_number 58 = .ok (.getfield 32, 3) := by decide +kernel
theorem dX7_number_61 : decode cX7_number 61 = .ok (.invokevirtual 99, 3) := by decide +kernel
theorem dX7_number_64 : decode cX7_number 64 = .ok (.iconst 1, 1) := by decide +kernel
theorem dX7_number_65 : decode cX7_number 65 = .ok (.ireturn, 1) := by decide +kernel
theorem dX7_personLine_0 : decode cX7_personLine 0 = .ok (.aload_n 0, 1) := by decide +kernel
theorem dX7_personLine_1 : decode cX7_personLine 1 = .ok (.aload_n 0, 1) := by decide +kernel
theorem dX7_personLine_2 : decode cX7_personLine 2 = .ok (.getfield 12, 3) := by decide +kernel
theorem dX7_personLine_5 : decode cX7_personLine 5 = .ok (.getfield 108, 3) := by decide +kernel
theorem dX7_personLine_8 : decode cX7_personLine 8 = .ok (.bipush 6, 2) := by decide +kernel
theorem dX7_personLine_10 : decode cX7_personLine 10 = .ok (.invokevirtual 111, 3) := by decide +kernel
theorem dX7_personLine_13 : decode cX7_personLine 13 = .ok (.ifCond .ne 5, 3) := by decide +kernel
theorem dX7_personLine_16 : decode cX7_personLine 16 = .ok (.iconst 0, 1) := by decide +kernel
theorem dX7_personLine_17 : decode cX7_personLine 17 = .ok (.ireturn, 1) := by decide +kernel
theorem dX7_personLine_18 : decode cX7_personLine 18 = .ok (.aload_n 0, 1) := by decide +kernel
theorem dX7_personLine_19 : decode cX7_personLine 19 = .ok (.getfield 32, 3) := by decide +kernel
theorem dX7_personLine_22 : decode cX7_personLine 22 = .ok (.getfield 61, 3) := by decide +kernel
theorem dX7_personLine_25 : decode cX7_personLine 25 = .ok (.bipush 37, 2) := by decide +kernel
theorem dX7_personLine_27 : decode cX7_personLine 27 = .ok (.if_icmp .eq 9, 3) := by decide +kernel
theorem dX7_personLine_30 : decode cX7_personLine 30 = .ok (.aload_n 0, 1) := by decide +kernel
theorem dX7_personLine_31 : decode cX7_personLine 31 = .ok (.iconst 1, 1) := by decide +kernel
theorem dX7_personLine_32 : decode cX7_personLine 32 = .ok (.invokevirtual 86, 3) := by decide +kernel
theorem dX7_personLine_35 : decode cX7_personLine 35 = .ok (.ireturn, 1) := by decide +kernel
theorem dX7_personLine_36 : decode cX7_personLine 36 = .ok (.aload_n 0, 1) := by decide +kernel
theorem dX7_personLine_37 : decode cX7_personLine 37 = .ok (.getfield 12, 3) := by decide +kernel
theorem dX7_personLine_40 : decode cX7_personLine 40 = .ok (.aload_n 0, 1) := by decide +kernel
theorem dX7_personLine_41 : decode cX7_personLine 41 = .ok (.getfield 32, 3) := by decide +kernel
theorem dX7_personLine_44 : decode cX7_personLine 44 = .ok (.getfield 102, 3) := by decide +kernel
theorem dX7_personLine_47 : decode cX7_personLine 47 = .ok (.invokevirtual 115, 3) := by decide +kernel
theorem dX7_personLine_50 : decode cX7_personLine 50 = .ok (.iconst (-1), 1) := by decide +kernel
theorem dX7_personLine_51 : decode cX7_personLine 51 = .ok (.if_icmp .eq 9, 3) := by decide +kernel
theorem dX7_personLine_54 : decode cX7_personLine 54 = .ok (.aload_n 0, 1) := by decide +kernel
theorem dX7_personLine_55 : decode cX7_personLine 55 = .ok (.iconst 3, 1) := by decide +kernel
theorem dX7_personLine_56 : decode cX7_personLine 56 = .ok (.invokevirtual 86, 3) := by decide +kernel
theorem dX7_personLine_59 : decode cX7_personLine 59 = .ok (.ireturn, 1) := by decide +kernel
theorem dX7_personLine_60 : decode cX7_personLine 60 = .ok (.aload_n 0, 1) := by decide +kernel
theorem dX7_personLine_61 : decode cX7_personLine 61 = .ok (.getfield 32, 3) := by decide +kernel
theorem dX7_personLine_64 : decode cX7_personLine 64 = .ok (.getfield 102, 3) := by decide +kernel
theorem dX7_personLine_67 : decode cX7_personLine 67 = .ok (.istore_n 1, 1) := by decide +kernel
theorem dX7_personLine_68 : decode cX7_personLine 68 = .ok (.aload_n 0, 1) := by decide +kernel
theorem dX7_personLine_69 : decode cX7_personLine 69 = .ok (.getfield 32, 3) := by decide +kernel
theorem dX7_personLine_72 : decode cX7_personLine 72 = .ok (.invokevirtual 99, 3) := by decide +kernel
theorem dX7_personLine_75 : decode cX7_personLine 75 = .ok (.aload_n 0, 1) := by decide +kernel
theorem dX7_personLine_76 : decode cX7_personLine 76 = .ok (.getfield 32, 3) := by decide +kernel
theorem dX7_personLine_79 : decode cX7_personLine 79 = .ok (.getfield 61, 3) := by decide +kernel
theorem dX7_personLine_82 : decode cX7_personLine 82 = .ok (.bipush 7, 2) := by decide +kernel
theorem dX7_personLine_84 : decode cX7_personLine 84 = .ok (.if_icmp .eq 21, 3) := by decide +kernel
theorem dX7_personLine_87 : decode cX7_personLine 87 = .ok (.aload_n 0, 1) := by decide +kernel
theorem dX7_personLine_88 : decode cX7_personLine 88 = .ok (.getfield 32, 3) := by decide +kernel
theorem dX7_personLine_91 : decode cX7_personLine 91 = .ok (.getfield 61, 3) := by decide +kernel
theorem dX7_personLine_94 : decode cX7_personLine 94 = .ok (.bipush 8, 2) := by decide +kernel
theorem dX7_personLine_96 : decode cX7_personLine 96 = .ok (.if_icmp .eq 9, 3) := by decide +kernel
theorem dX7_personLine_99 : decode cX7_personLine 99 = .ok (.aload_n 0, 1) := by decide +kernel
theorem dX7_personLine_100 : decode cX7_personLine 100 = .ok (.iconst 1, 1) := by decide +kernel
theorem dX7_personLine_101 : decode cX7_personLine 101 = .ok (.invokevirtual 86, 3) := by decide +kernel
theorem dX7_personLine_104 : decode cX7_personLine 104 = .ok (.ireturn, 1) := by decide +kernel
theorem dX7_personLine_105 : decode cX7_personLine 105 = .ok (.aload_n 0, 1) := by decide +kernel
theorem dX7_personLine_106 : decode cX7_personLine 106 = .ok (.getfield 32, 3) := by decide +kernel
theorem dX7_personLine_109 : decode cX7_personLine 109 = .ok (.getfield 61, 3) := by decide +kernel
theorem dX7_personLine_112 : decode cX7_personLine 112 = .ok (.bipush 7, 2) := by decide +kernel
theorem dX7_personLine_114 : decode cX7_personLine 114 = .ok (.if_icmp .ne 7, 3) := by decide +kernel
theorem dX7_personLine_117 : decode cX7_personLine 117 = .ok (.iconst 0, 1) := by decide +kernel
theorem dX7_personLine_118 : decode cX7_personLine 118 = .ok (.goto 4, 3) := by decide +kernel
theorem dX7_personLine_121 : decode cX7_personLine 121 = .ok (.iconst 1, 1) := by decide +kernel
theorem dX7_personLine_122 : decode cX7_personLine 122 = .ok (.istore_n 2, 1) := by decide +kernel
theorem dX7_personLine_123 : decode cX7_personLine 123 = .ok (.aload_n 0, 1) := by decide +kernel
theorem dX7_personLine_124 : decode cX7_personLine 124 = .ok (.getfield 32, 3) := by decide +kernel
theorem dX7_personLine_127 : decode cX7_personLine 127 = .ok (.invokevirtual 99, 3) := by decide +kernel
theorem dX7_personLine_130 : decode cX7_personLine 130 = .ok (.aload_n 0, 1) := by decide +kernel
theorem dX7_personLine_131 : decode cX7_personLine 131 = .ok (.iconst 0, 1) := by decide +kernel
theorem dX7_personLine_132 : decode cX7_personLine 132 = .ok (.sipush 999, 3) := by decide +kernel
theorem dX7_personLine_135 : decode cX7_personLine 135 = .ok (.invokevirtual 119, 3) := by decide +kernel
theorem dX7_personLine_138 : decode cX7_personLine 138 = .ok (.ifCond .ne 5, 3) := by decide +kernel
theorem dX7_personLine_141 : decode cX7_personLine 141 = .ok (.iconst 0, 1) := by decide +kernel
theorem dX7_personLine_142 : decode cX7_personLine 142 = .ok (.ireturn, 1) := by decide +kernel
theorem dX7_personLine_143 : decode cX7_personLine 143 = .ok (.aload_n 0, 1) := by decide +kernel
theorem dX7_personLine_144 : decode cX7_personLine 144 = .ok (.getfield 105, 3) := by decide +kernel
theorem dX7_personLine_147 : decode cX7_personLine 147 = .ok (.istore_n 3, 1) := by decide +kernel
theorem dX7_personLine_148 : decode cX7_personLine 148 = .ok (.aload_n 0, 1) := by decide +kernel
theorem dX7_personLine_149 : decode cX7_personLine 149 = .ok (.iconst 1, 1) := by decide +kernel
theorem dX7_personLine_150 : decode cX7_personLine 150 = .ok (.bipush 99, 2) := by decide +kernel
theorem dX7_personLine_152 : decode cX7_personLine 152 = .ok (.invokevirtual 119, 3) := by decide +kernel
theorem dX7_personLine_155 : decode cX7_personLine 155 = .ok (.ifCond .ne 5, 3) := by decide +kernel
theorem dX7_personLine_158 : decode cX7_personLine 158 = .ok (.iconst 0, 1) := by decide +kernel
theorem dX7_personLine_159 : decode cX7_personLine 159 = .ok (.ireturn, 1) := by decide +kernel
theorem dX7_personLine_160 : decode cX7_personLine 160 = .ok (.aload_n 0, 1) := by decide +kernel
theorem dX7_personLine_161 : decode cX7_personLine 161 = .ok (.getfield 23, 3) := by decide +kernel
theorem dX7_personLine_164 : decode cX7_personLine 164 = .ok (.getfield 122, 3) := by decide +kernel
theorem dX7_personLine_167 : decode cX7_personLine 167 = .ok (.aload_n 0, 1) := by decide +kernel
theorem dX7_personLine_168 : decode cX7_personLine 168 = .ok (.getfield 12, 3) := by decide +kernel
theorem dX7_personLine_171 : decode cX7_personLine 171 = .ok (.getfield 108, 3) := by decide +kernel
theorem dX7_personLine_174 : decode cX7_personLine 174 = .ok (.iload_n 3, 1) := by decide +kernel
theorem dX7_personLine_175 : decode cX7_personLine 175 = .ok (.iastore, 1) := by decide +kernel
theorem dX7_personLine_176 : decode cX7_personLine 176 = .ok (.aload_n 0, 1) := by decide +kernel
theorem dX7_personLine_177 : decode cX7_personLine 177 = .ok (.getfield 23, 3) := by decide +kernel
theorem dX7_personLine_180 : decode cX7_personLine 180 = .ok (.getfield 126, 3) := by decide +kernel
theorem dX7_personLine_183 : decode cX7_personLine 183 = .ok (.aload_n 0, 1) := by decide +kernel
theorem dX7_personLine_184 : decode cX7_personLine 184 = .ok (.getfield 12, 3) := by decide +kernel
theorem dX7_personLine_187 : decode cX7_personLine 187 = .ok (.getfield 108, 3) := by decide +kernel
theorem dX7_personLine_190 : decode cX7_personLine 190 = .ok (.iload_n 2, 1) := by decide +kernel
theorem dX7_personLine_191 : decode cX7_personLine 191 = .ok (.iastore, 1) := by decide +kernel
theorem dX7_personLine_192 : decode cX7_personLine 192 = .ok (.aload_n 0, 1) := by decide +kernel
theorem dX7_personLine_193 : decode cX7_personLine 193 = .ok (.getfield 12, 3) := by decide +kernel
theorem dX7_personLine_196 : decode cX7_personLine 196 = .ok (.iload_n 1, 1) := by decide +kernel
theorem dX7_personLine_197 : decode cX7_personLine 197 = .ok (.iload_n 2, 1) := by decide +kernel
theorem dX7_personLine_198 : decode cX7_personLine 198 = .ok (.aload_n 0, 1) := by decide +kernel
theorem dX7_personLine_199 : decode cX7_personLine 199 = .ok (.getfield 105, 3) := by decide +kernel
theorem dX7_personLine_202 : decode cX7_personLine 202 = .ok (.invokevirtual 129, 3) := by decide +kernel
theorem dX7_personLine_205 : decode cX7_personLine 205 = .ok (.iconst 1, 1) := by decide +kernel
theorem dX7_personLine_206 : decode cX7_personLine 206 = .ok (.ireturn, 1) := by decide +kernel
theorem dX7_toldPerson_0 : decode cX7_toldPerson 0 = .ok (.aload_n 0, 1) := by decide +kernel
theorem dX7_toldPerson_1 : decode cX7_toldPerson 1 = .ok (.getfield 32, 3) := by decide +kernel
theorem dX7_toldPerson_4 : decode cX7_toldPerson 4 = .ok (.getfield 61, 3) := by decide +kernel
theorem dX7_toldPerson_7 : decode cX7_toldPerson 7 = .ok (.bipush 37, 2) := by decide +kernel
theorem dX7_toldPerson_9 : decode cX7_toldPerson 9 = .ok (.if_icmp .eq 9, 3) := by decide +kernel
theorem dX7_toldPerson_12 : decode cX7_toldPerson 12 = .ok (.aload_n 0, 1) := by decide +kernel
theorem dX7_toldPerson_13 : decode cX7_toldPerson 13 = .ok (.iconst 1, 1) := by decide +kernel
theorem dX7_toldPerson_14 : decode cX7_toldPerson 14 = .ok (.invokevirtual 86, 3) := by decide +kernel
theorem dX7_toldPerson_17 : decode cX7_toldPerson 17 = .ok (.ireturn, 1) := by decide +kernel
theorem dX7_toldPerson_18 : decode cX7_toldPerson 18 = .ok (.aload_n 0, 1) := by decide +kernel
theorem dX7_toldPerson_19 : decode cX7_toldPerson 19 = .ok (.aload_n 0, 1) := by decide +kernel
theorem dX7_toldPerson_20 : decode cX7_toldPerson 20 = .ok (.getfield 12, 3) := by decide +kernel
theorem dX7_toldPerson_23 : decode cX7_toldPerson 23 = .ok (.aload_n 0, 1) := by decide +kernel
theorem dX7_toldPerson_24 : decode cX7_toldPerson 24 = .ok (.getfield 32, 3) := by decide +kernel
theorem dX7_toldPerson_27 : decode cX7_toldPerson 27 = .ok (.getfield 102, 3) := by decide +kernel
theorem dX7_toldPerson_30 : decode cX7_toldPerson 30 = .ok (.invokevirtual 115, 3) := by decide +kernel
theorem dX7_toldPerson_33 : decode cX7_toldPerson 33 = .ok (.putfield 105, 3) := by decide +kernel
theorem dX7_toldPerson_36 : decode cX7_toldPerson 36 = .ok (.aload_n 0, 1) := by decide +kernel
theorem dX7_toldPerson_37 : decode cX7_toldPerson 37 = .ok (.getfield 105, 3) := by decide +kernel
theorem dX7_toldPerson_40 : decode cX7_toldPerson 40 = .ok (.iconst (-1), 1) := by decide +kernel
theorem dX7_toldPerson_41 : decode cX7_toldPerson 41 = .ok (.if_icmp .ne 11, 3) := by decide +kernel
theorem dX7_toldPerson_44 : decode cX7_toldPerson 44 = .ok (.aload_n 0, 1) := by decide +kernel
theorem dX7_toldPerson_45 : decode cX7_toldPerson 45 = .ok (.iconst 4, 1) := by decide +kernel
theorem dX7_toldPerson_46 : decode cX7_toldPerson 46 = .ok (.invokevirtual 86, 3) := by decide +kernel
theorem dX7_toldPerson_49 : decode cX7_toldPerson 49 = .ok (.ifCond .eq 7, 3) := by decide +kernel
theorem dX7_toldPerson_52 : decode cX7_toldPerson 52 = .ok (.iconst 1, 1) := by decide +kernel
theorem dX7_toldPerson_53 : decode cX7_toldPerson 53 = .ok (.goto 4, 3) := by decide +kernel
theorem dX7_toldPerson_56 : decode cX7_toldPerson 56 = .ok (.iconst 0, 1) := by decide +kernel
theorem dX7_toldPerson_57 : decode cX7_toldPerson 57 = .ok (.ireturn, 1) := by decide +kernel
theorem dX7_debtLine_0 : decode cX7_debtLine 0 = .ok (.aload_n 0, 1) := by decide +kernel
theorem dX7_debtLine_1 : decode cX7_debtLine 1 = .ok (.aload_n 0, 1) := by decide +kernel
theorem dX7_debtLine_2 : decode cX7_debtLine 2 = .ok (.getfield 23, 3) := by decide +kernel
theorem dX7_debtLine_5 : decode cX7_debtLine 5 = .ok (.getfield 133, 3) := by decide +kernel
theorem dX7_debtLine_8 : decode cX7_debtLine 8 = .ok (.bipush 10, 2) := by decide +kernel
theorem dX7_debtLine_10 : decode cX7_debtLine 10 = .ok (.invokevirtual 111, 3) := by decide +kernel
theorem dX7_debtLine_13 : decode cX7_debtLine 13 = .ok (.ifCond .eq 10, 3) := by decide +kernel
theorem dX7_debtLine_16 : decode cX7_debtLine 16 = .ok (.aload_n 0, 1) := by decide +kernel
theorem dX7_debtLine_17 : decode cX7_debtLine 17 = .ok (.invokevirtual 136, 3) := by decide +kernel
theorem dX7_debtLine_20 : decode cX7_debtLine 20 = .ok (.ifCond .ne 5, 3) := by decide +kernel
theorem dX7_debtLine_23 : decode cX7_debtLine 23 = .ok (.iconst 0, 1) := by decide +kernel
theorem dX7_debtLine_24 : decode cX7_debtLine 24 = .ok (.ireturn, 1) := by decide +kernel
theorem dX7_debtLine_25 : decode cX7_debtLine 25 = .ok (.aload_n 0, 1) := by decide +kernel
theorem dX7_debtLine_26 : decode cX7_debtLine 26 = .ok (.getfield 105, 3) := by decide +kernel
theorem dX7_debtLine_29 : decode cX7_debtLine 29 = .ok (.istore_n 1, 1) := by decide +kernel
theorem dX7_debtLine_30 : decode cX7_debtLine 30 = .ok (.aload_n 0, 1) := by decide +kernel
theorem dX7_debtLine_31 : decode cX7_debtLine 31 = .ok (.getfield 32, 3) := by decide +kernel
theorem dX7_debtLine_34 : decode cX7_debtLine 34 = .ok (.invokevirtual 99, 3) := by decide +kernel
theorem dX7_debtLine_37 : decode cX7_debtLine 37 = .ok (.aload_n 0, 1) := by decide +kernel
theorem dX7_debtLine_38 : decode cX7_debtLine 38 = .ok (.invokevirtual 136, 3) := by decide +kernel
theorem dX7_debtLine_41 : decode cX7_debtLine 41 = .ok (.ifCond .ne 5, 3) := by decide +kernel
theorem dX7_debtLine_44 : decode cX7_debtLine 44 = .ok (.iconst 0, 1) := by decide +kernel
theorem dX7_debtLine_45 : decode cX7_debtLine 45 = .ok (.ireturn, 1) := by decide +kernel
theorem dX7_debtLine_46 : decode cX7_debtLine 46 = .ok (.aload_n 0, 1) := by decide +kernel
theorem dX7_debtLine_47 : decode cX7_debtLine 47 = .ok (.getfield 105, 3) := by decide +kernel
theorem dX7_debtLine_50 : decode cX7_debtLine 50 = .ok (.istore_n 2, 1) := by decide +kernel
theorem dX7_debtLine_51 : decode cX7_debtLine 51 = .ok (.aload_n 0, 1) := by decide +kernel
theorem dX7_debtLine_52 : decode cX7_debtLine 52 = .ok (.getfield 12, 3) := by decide +kernel
theorem dX7_debtLine_55 : decode cX7_debtLine 55 = .ok (.getfield 139, 3) := by decide +kernel
theorem dX7_debtLine_58 : decode cX7_debtLine 58 = .ok (.iload_n 1, 1) := by decide +kernel
theorem dX7_debtLine_59 : decode cX7_debtLine 59 = .ok (.iaload, 1) := by decide +kernel
theorem dX7_debtLine_60 : decode cX7_debtLine 60 = .ok (.aload_n 0, 1) := by decide +kernel
theorem dX7_debtLine_61 : decode cX7_debtLine 61 = .ok (.getfield 12, 3) := by decide +kernel
theorem dX7_debtLine_64 : decode cX7_debtLine 64 = .ok (.getfield 139, 3) := by decide +kernel
theorem dX7_debtLine_67 : decode cX7_debtLine 67 = .ok (.iload_n 2, 1) := by decide +kernel
theorem dX7_debtLine_68 : decode cX7_debtLine 68 = .ok (.iaload, 1) := by decide +kernel
theorem dX7_debtLine_69 : decode cX7_debtLine 69 = .ok (.if_icmp .ne 9, 3) := by decide +kernel
theorem dX7_debtLine_72 : decode cX7_debtLine 72 = .ok (.aload_n 0, 1) := by decide +kernel
theorem dX7_debtLine_73 : decode cX7_debtLine 73 = .ok (.iconst 5, 1) := by decide +kernel
theorem dX7_debtLine_74 : decode cX7_debtLine 74 = .ok (.invokevirtual 86, 3) := by decide +kernel
theorem dX7_debtLine_77 : decode cX7_debtLine 77 = .ok (.ireturn, 1) := by decide +kernel
theorem dX7_debtLine_78 : decode cX7_debtLine 78 = .ok (.aload_n 0, 1) := by decide +kernel
theorem dX7_debtLine_79 : decode cX7_debtLine 79 = .ok (.getfield 32, 3) := by decide +kernel
theorem dX7_debtLine_82 : decode cX7_debtLine 82 = .ok (.invokevirtual 99, 3) := by decide +kernel
theorem dX7_debtLine_85 : decode cX7_debtLine 85 = .ok (.aload_n 0, 1) := by decide +kernel
theorem dX7_debtLine_86 : decode cX7_debtLine 86 = .ok (.iconst 1, 1) := by decide +kernel
theorem dX7_debtLine_87 : decode cX7_debtLine 87 = .ok (.sipush 999, 3) := by decide +kernel
theorem dX7_debtLine_90 : decode cX7_debtLine 90 = .ok (.invokevirtual 119, 3) := by decide +kernel
theorem dX7_debtLine_93 : decode cX7_debtLine 93 = .ok (.ifCond .ne 5, 3) := by decide +kernel
theorem dX7_debtLine_96 : decode cX7_debtLine 96 = .ok (.iconst 0, 1) := by decide +kernel
theorem dX7_debtLine_97 : decode cX7_debtLine 97 = .ok (.ireturn, 1) := by decide +kernel
theorem dX7_debtLine_98 : decode cX7_debtLine 98 = .ok (.aload_n 0, 1) := by decide +kernel
theorem dX7_debtLine_99 : decode cX7_debtLine 99 = .ok (.getfield 105, 3) := by decide +kernel
theorem dX7_debtLine_102 : decode cX7_debtLine 102 = .ok (.istore_n 3, 1) := by decide +kernel
theorem dX7_debtLine_103 : decode cX7_debtLine 103 = .ok (.aload_n 0, 1) := by decide +kernel
theorem dX7_debtLine_104 : decode cX7_debtLine 104 = .ok (.iconst 0, 1) := by decide +kernel
theorem dX7_debtLine_105 : decode cX7_debtLine 105 = .ok (.bipush 99, 2) := by decide +kernel
theorem dX7_debtLine_107 : decode cX7_debtLine 107 = .ok (.invokevirtual 119, 3) := by decide +kernel
theorem dX7_debtLine_110 : decode cX7_debtLine 110 = .ok (.ifCond .ne 5, 3) := by decide +kernel
theorem dX7_debtLine_113 : decode cX7_debtLine 113 = .ok (.iconst 0, 1) := by decide +kernel
theorem dX7_debtLine_114 : decode cX7_debtLine 114 = .ok (.ireturn, 1) := by decide +kernel
theorem dX7_debtLine_115 : decode cX7_debtLine 115 = .ok (.aload_n 0, 1) := by decide +kernel
theorem dX7_debtLine_116 : decode cX7_debtLine 116 = .ok (.getfield 105, 3) := by decide +kernel
theorem dX7_debtLine_119 : decode cX7_debtLine 119 = .ok (.istore 4, 2) := by decide +kernel
theorem dX7_debtLine_121 : decode cX7_debtLine 121 = .ok (.aload_n 0, 1) := by decide +kernel
theorem dX7_debtLine_122 : decode cX7_debtLine 122 = .ok (.iconst 0, 1) := by decide +kernel
theorem dX7_debtLine_123 : decode cX7_debtLine 123 = .ok (.bipush 99, 2) := by decide +kernel
theorem dX7_debtLine_125 : decode cX7_debtLine 125 = .ok (.invokevirtual 119, 3) := by decide +kernel
theorem dX7_debtLine_128 : decode cX7_debtLine 128 = .ok (.ifCond .ne 5, 3) := by decide +kernel
theorem dX7_debtLine_131 : decode cX7_debtLine 131 = .ok (.iconst 0, 1) := by decide +kernel
theorem dX7_debtLine_132 : decode cX7_debtLine 132 = .ok (.ireturn, 1) := by decide +kernel
theorem dX7_debtLine_133 : decode cX7_debtLine 133 = .ok (.aload_n 0, 1) := by decide +kernel
theorem dX7_debtLine_134 : decode cX7_debtLine 134 = .ok (.getfield 23, 3) := by decide +kernel
theorem dX7_debtLine_137 : decode cX7_debtLine 137 = .ok (.iload_n 1, 1) := by decide +kernel
theorem dX7_debtLine_138 : decode cX7_debtLine 138 = .ok (.iload_n 2, 1) := by decide +kernel
theorem dX7_debtLine_139 : decode cX7_debtLine 139 = .ok (.iload_n 3, 1) := by decide +kernel
theorem dX7_debtLine_140 : decode cX7_debtLine 140 = .ok (.iload 4, 2) := by decide +kernel
theorem dX7_debtLine_142 : decode cX7_debtLine 142 = .ok (.aload_n 0, 1) := by decide +kernel
theorem dX7_debtLine_143 : decode cX7_debtLine 143 = .ok (.getfield 105, 3) := by decide +kernel
theorem dX7_debtLine_146 : decode cX7_debtLine 146 = .ok (.invokevirtual 142, 3) := by decide +kernel
theorem dX7_debtLine_149 : decode cX7_debtLine 149 = .ok (.aload_n 0, 1) := by decide +kernel
theorem dX7_debtLine_150 : decode cX7_debtLine 150 = .ok (.getfield 12, 3) := by decide +kernel
theorem dX7_debtLine_153 : decode cX7_debtLine 153 = .ok (.aload_n 0, 1) := by decide +kernel
theorem dX7_debtLine_154 : decode cX7_debtLine 154 = .ok (.getfield 23, 3) := by decide +kernel
theorem dX7_debtLine_157 : decode cX7_debtLine 157 = .ok (.getfield 133, 3) := by decide +kernel
theorem dX7_debtLine_160 : decode cX7_debtLine 160 = .ok (.putfield 146, 3) := by decide +kernel
theorem dX7_debtLine_163 : decode cX7_debtLine 163 = .ok (.aload_n 0, 1) := by decide +kernel
theorem dX7_debtLine_164 : decode cX7_debtLine 164 = .ok (.getfield 32, 3) := by decide +kernel
theorem dX7_debtLine_167 : decode cX7_debtLine 167 = .ok (.getfield 61, 3) := by decide +kernel
theorem dX7_debtLine_170 : decode cX7_debtLine 170 = .ok (.bipush 12, 2) := by decide +kernel
theorem dX7_debtLine_172 : decode cX7_debtLine 172 = .ok (.if_icmp .ne 33, 3) := by decide +kernel
theorem dX7_debtLine_175 : decode cX7_debtLine 175 = .ok (.aload_n 0, 1) := by decide +kernel
theorem dX7_debtLine_176 : decode cX7_debtLine 176 = .ok (.getfield 23, 3) := by decide +kernel
theorem dX7_debtLine_179 : decode cX7_debtLine 179 = .ok (.dup, 1) := by decide +kernel
theorem dX7_debtLine_180 : decode cX7_debtLine 180 = .ok (.getfield 147, 3) := by decide +kernel
theorem dX7_debtLine_183 : decode cX7_debtLine 183 = .ok (.iconst 1, 1) := by decide +kernel
theorem dX7_debtLine_184 : decode cX7_debtLine 184 = .ok (.aload_n 0, 1) := by decide +kernel
theorem dX7_debtLine_185 : decode cX7_debtLine 185 = .ok (.getfield 23, 3) := by decide +kernel
theorem dX7_debtLine_188 : decode cX7_debtLine 188 = .ok (.getfield 133, 3) := by decide +kernel
theorem dX7_debtLine_191 : decode cX7_debtLine 191 = .ok (.iconst 1, 1) := by decide +kernel
theorem dX7_debtLine_192 : decode cX7_debtLine 192 = .ok (.isub, 1) := by decide +kernel
theorem dX7_debtLine_193 : decode cX7_debtLine 193 = .ok (.ishl, 1) := by decide +kernel
theorem dX7_debtLine_194 : decode cX7_debtLine 194 = .ok (.ior, 1) := by decide +kernel
theorem dX7_debtLine_195 : decode cX7_debtLine 195 = .ok (.putfield 147, 3) := by decide +kernel
theorem dX7_debtLine_198 : decode cX7_debtLine 198 = .ok (.aload_n 0, 1) := by decide +kernel
theorem dX7_debtLine_199 : decode cX7_debtLine 199 = .ok (.getfield 32, 3) := by decide +kernel
theorem dX7_debtLine_202 : decode cX7_debtLine 202 = .ok (.invokevirtual 99, 3) := by decide +kernel
theorem dX7_debtLine_205 : decode cX7_debtLine 205 = .ok (.iconst 1, 1) := by decide +kernel
theorem dX7_debtLine_206 : decode cX7_debtLine 206 = .ok (.ireturn, 1) := by decide +kernel
theorem dX7_twistLine_0 : decode cX7_twistLine 0 = .ok (.aload_n 0, 1) := by decide +kernel
theorem dX7_twistLine_1 : decode cX7_twistLine 1 = .ok (.getfield 32, 3) := by decide +kernel
theorem dX7_twistLine_4 : decode cX7_twistLine 4 = .ok (.invokevirtual 99, 3) := by decide +kernel
theorem dX7_twistLine_7 : decode cX7_twistLine 7 = .ok (.aload_n 0, 1) := by decide +kernel
theorem dX7_twistLine_8 : decode cX7_twistLine 8 = .ok (.iconst (-1), 1) := by decide +kernel
theorem dX7_twistLine_9 : decode cX7_twistLine 9 = .ok (.invokevirtual 150, 3) := by decide +kernel
theorem dX7_twistLine_12 : decode cX7_twistLine 12 = .ok (.ifCond .ne 5, 3) := by decide +kernel
theorem dX7_twistLine_15 : decode cX7_twistLine 15 = .ok (.iconst 0, 1) := by decide +kernel
theorem dX7_twistLine_16 : decode cX7_twistLine 16 = .ok (.ireturn, 1) := by decide +kernel
theorem dX7_twistLine_17 : decode cX7_twistLine 17 = .ok (.aload_n 0, 1) := by decide +kernel
theorem dX7_twistLine_18 : decode cX7_twistLine 18 = .ok (.getfield 105, 3) := by decide +kernel
theorem dX7_twistLine_21 : decode cX7_twistLine 21 = .ok (.istore_n 1, 1) := by decide +kernel
theorem dX7_twistLine_22 : decode cX7_twistLine 22 = .ok (.aload_n 0, 1) := by decide +kernel
theorem dX7_twistLine_23 : decode cX7_twistLine 23 = .ok (.iload_n 1, 1) := by decide +kernel
theorem dX7_twistLine_24 : decode cX7_twistLine 24 = .ok (.invokevirtual 150, 3) := by decide +kernel
theorem dX7_twistLine_27 : decode cX7_twistLine 27 = .ok (.ifCond .ne 5, 3) := by decide +kernel
theorem dX7_twistLine_30 : decode cX7_twistLine 30 = .ok (.iconst 0, 1) := by decide +kernel
theorem dX7_twistLine_31 : decode cX7_twistLine 31 = .ok (.ireturn, 1) := by decide +kernel
theorem dX7_twistLine_32 : decode cX7_twistLine 32 = .ok (.aload_n 0, 1) := by decide +kernel
theorem dX7_twistLine_33 : decode cX7_twistLine 33 = .ok (.getfield 23, 3) := by decide +kernel
theorem dX7_twistLine_36 : decode cX7_twistLine 36 = .ok (.iload_n 1, 1) := by decide +kernel
theorem dX7_twistLine_37 : decode cX7_twistLine 37 = .ok (.aload_n 0, 1) := by decide +kernel
theorem dX7_twistLine_38 : decode cX7_twistLine 38 = .ok (.getfield 105, 3) := by decide +kernel
theorem dX7_twistLine_41 : decode cX7_twistLine 41 = .ok (.invokevirtual 153, 3) := by decide +kernel
theorem dX7_twistLine_44 : decode cX7_twistLine 44 = .ok (.iconst 1, 1) := by decide +kernel
theorem dX7_twistLine_45 : decode cX7_twistLine 45 = .ok (.ireturn, 1) := by decide +kernel
theorem dX7_freeStrand_0 : decode cX7_freeStrand 0 = .ok (.aload_n 0, 1) := by decide +kernel
theorem dX7_freeStrand_1 : decode cX7_freeStrand 1 = .ok (.getfield 32, 3) := by decide +kernel
theorem dX7_freeStrand_4 : decode cX7_freeStrand 4 = .ok (.getfield 61, 3) := by decide +kernel
theorem dX7_freeStrand_7 : decode cX7_freeStrand 7 = .ok (.bipush 36, 2) := by decide +kernel
theorem dX7_freeStrand_9 : decode cX7_freeStrand 9 = .ok (.if_icmp .eq 9, 3) := by decide +kernel
theorem dX7_freeStrand_12 : decode cX7_freeStrand 12 = .ok (.aload_n 0, 1) := by decide +kernel
theorem dX7_freeStrand_13 : decode cX7_freeStrand 13 = .ok (.iconst 1, 1) := by decide +kernel
theorem dX7_freeStrand_14 : decode cX7_freeStrand 14 = .ok (.invokevirtual 86, 3) := by decide +kernel
theorem dX7_freeStrand_17 : decode cX7_freeStrand 17 = .ok (.ireturn, 1) := by decide +kernel
theorem dX7_freeStrand_18 : decode cX7_freeStrand 18 = .ok (.aload_n 0, 1) := by decide +kernel
theorem dX7_freeStrand_19 : decode cX7_freeStrand 19 = .ok (.getfield 23, 3) := by decide +kernel
theorem dX7_freeStrand_22 : decode cX7_freeStrand 22 = .ok (.aload_n 0, 1) := by decide +kernel
theorem dX7_freeStrand_23 : decode cX7_freeStrand 23 = .ok (.getfield 32, 3) := by decide +kernel
theorem dX7_freeStrand_26 : decode cX7_freeStrand 26 = .ok (.getfield 102, 3) := by decide +kernel
theorem dX7_freeStrand_29 : decode cX7_freeStrand 29 = .ok (.invokevirtual 157, 3) := by decide +kernel
theorem dX7_freeStrand_32 : decode cX7_freeStrand 32 = .ok (.ifCond .ne 9, 3) := by decide +kernel
theorem dX7_freeStrand_35 : decode cX7_freeStrand 35 = .ok (.aload_n 0, 1) := by decide +kernel
theorem dX7_freeStrand_36 : decode cX7_freeStrand 36 = .ok (.iconst 4, 1) := by decide +kernel
theorem dX7_freeStrand_37 : decode cX7_freeStrand 37 = .ok (.invokevirtual 86, 3) := by decide +kernel
theorem dX7_freeStrand_40 : decode cX7_freeStrand 40 = .ok (.ireturn, 1) := by decide +kernel
theorem dX7_freeStrand_41 : decode cX7_freeStrand 41 = .ok (.aload_n 0, 1) := by decide +kernel
theorem dX7_freeStrand_42 : decode cX7_freeStrand 42 = .ok (.getfield 32, 3) := by decide +kernel
theorem dX7_freeStrand_45 : decode cX7_freeStrand 45 = .ok (.getfield 102, 3) := by decide +kernel
theorem dX7_freeStrand_48 : decode cX7_freeStrand 48 = .ok (.iload_n 1, 1) := by decide +kernel
theorem dX7_freeStrand_49 : decode cX7_freeStrand 49 = .ok (.if_icmp .eq 22, 3) := by decide +kernel
theorem dX7_freeStrand_52 : decode cX7_freeStrand 52 = .ok (.aload_n 0, 1) := by decide +kernel
theorem dX7_freeStrand_53 : decode cX7_freeStrand 53 = .ok (.getfield 23, 3) := by decide +kernel
theorem dX7_freeStrand_56 : decode cX7_freeStrand 56 = .ok (.getfield 160, 3) := by decide +kernel
theorem dX7_freeStrand_59 : decode cX7_freeStrand 59 = .ok (.aload_n 0, 1) := by decide +kernel
theorem dX7_freeStrand_60 : decode cX7_freeStrand 60 = .ok (.getfield 32, 3) := by decide +kernel
theorem dX7_freeStrand_63 : decode cX7_freeStrand 63 = .ok (.getfield 102, 3) := by decide +kernel
theorem dX7_freeStrand_66 : decode cX7_freeStrand 66 = .ok (.iaload, 1) := by decide +kernel
theorem dX7_freeStrand_67 : decode cX7_freeStrand 67 = .ok (.iconst (-1), 1) := by decide +kernel
theorem dX7_freeStrand_68 : decode cX7_freeStrand 68 = .ok (.if_icmp .eq 9, 3) := by decide +kernel
theorem dX7_freeStrand_71 : decode cX7_freeStrand 71 = .ok (.aload_n 0, 1) := by decide +kernel
theorem dX7_freeStrand_72 : decode cX7_freeStrand 72 = .ok (.iconst 5, 1) := by decide +kernel
theorem dX7_freeStrand_73 : decode cX7_freeStrand 73 = .ok (.invokevirtual 86, 3) := by decide +kernel
theorem dX7_freeStrand_76 : decode cX7_freeStrand 76 = .ok (.ireturn, 1) := by decide +kernel
theorem dX7_freeStrand_77 : decode cX7_freeStrand 77 = .ok (.aload_n 0, 1) := by decide +kernel
theorem dX7_freeStrand_78 : decode cX7_freeStrand 78 = .ok (.aload_n 0, 1) := by decide +kernel
theorem dX7_freeStrand_79 : decode cX7_freeStrand 79 = .ok (.getfield 32, 3) := by decide +kernel
theorem dX7_freeStrand_82 : decode cX7_freeStrand 82 = .ok (.getfield 102, 3) := by decide +kernel
theorem dX7_freeStrand_85 : decode cX7_freeStrand 85 = .ok (.putfield 105, 3) := by decide +kernel
theorem dX7_freeStrand_88 : decode cX7_freeStrand 88 = .ok (.aload_n 0, 1) := by decide +kernel
theorem dX7_freeStrand_89 : decode cX7_freeStrand 89 = .ok (.getfield 32, 3) := by decide +kernel
theorem dX7_freeStrand_92 : decode cX7_freeStrand 92 = .ok (.invokevirtual 99, 3) := by decide +kernel
theorem dX7_freeStrand_95 : decode cX7_freeStrand 95 = .ok (.iconst 1, 1) := by decide +kernel
theorem dX7_freeStrand_96 : decode cX7_freeStrand 96 = .ok (.ireturn, 1) := by decide +kernel
theorem dX7_crossLine_0 : decode cX7_crossLine 0 = .ok (.aload_n 0, 1) := by decide +kernel
theorem dX7_crossLine_1 : decode cX7_crossLine 1 = .ok (.aload_n 0, 1) := by decide +kernel
theorem dX7_crossLine_2 : decode cX7_crossLine 2 = .ok (.getfield 12, 3) := by decide +kernel
theorem dX7_crossLine_5 : decode cX7_crossLine 5 = .ok (.getfield 163, 3) := by decide +kernel
theorem dX7_crossLine_8 : decode cX7_crossLine 8 = .ok (.bipush 8, 2) := by decide +kernel
theorem dX7_crossLine_10 : decode cX7_crossLine 10 = .ok (.invokevirtual 111, 3) := by decide +kernel
theorem dX7_crossLine_13 : decode cX7_crossLine 13 = .ok (.ifCond .eq 10, 3) := by decide +kernel
theorem dX7_crossLine_16 : decode cX7_crossLine 16 = .ok (.aload_n 0, 1) := by decide +kernel
theorem dX7_crossLine_17 : decode cX7_crossLine 17 = .ok (.invokevirtual 136, 3) := by decide +kernel
theorem dX7_crossLine_20 : decode cX7_crossLine 20 = .ok (.ifCond .ne 5, 3) := by decide +kernel
theorem dX7_crossLine_23 : decode cX7_crossLine 23 = .ok (.iconst 0, 1) := by decide +kernel
theorem dX7_crossLine_24 : decode cX7_crossLine 24 = .ok (.ireturn, 1) := by decide +kernel
theorem dX7_crossLine_25 : decode cX7_crossLine 25 = .ok (.aload_n 0, 1) := by decide +kernel
theorem dX7_crossLine_26 : decode cX7_crossLine 26 = .ok (.getfield 105, 3) := by decide +kernel
theorem dX7_crossLine_29 : decode cX7_crossLine 29 = .ok (.istore_n 1, 1) := by decide +kernel
theorem dX7_crossLine_30 : decode cX7_crossLine 30 = .ok (.aload_n 0, 1) := by decide +kernel
theorem dX7_crossLine_31 : decode cX7_crossLine 31 = .ok (.getfield 32, 3) := by decide +kernel
theorem dX7_crossLine_34 : decode cX7_crossLine 34 = .ok (.invokevirtual 99, 3) := by decide +kernel
theorem dX7_crossLine_37 : decode cX7_crossLine 37 = .ok (.aload_n 0, 1) := by decide +kernel
theorem dX7_crossLine_38 : decode cX7_crossLine 38 = .ok (.iconst 0, 1) := by decide +kernel
theorem dX7_crossLine_39 : decode cX7_crossLine 39 = .ok (.bipush 99, 2) := by decide +kernel
theorem dX7_crossLine_41 : decode cX7_crossLine 41 = .ok (.invokevirtual 119, 3) := by decide +kernel
theorem dX7_crossLine_44 : decode cX7_crossLine 44 = .ok (.ifCond .ne 5, 3) := by decide +kernel
theorem dX7_crossLine_47 : decode cX7_crossLine 47 = .ok (.iconst 0, 1) := by decide +kernel
theorem dX7_crossLine_48 : decode cX7_crossLine 48 = .ok (.ireturn, 1) := by decide +kernel
theorem dX7_crossLine_49 : decode cX7_crossLine 49 = .ok (.aload_n 0, 1) := by decide +kernel
theorem dX7_crossLine_50 : decode cX7_crossLine 50 = .ok (.getfield 105, 3) := by decide +kernel
theorem dX7_crossLine_53 : decode cX7_crossLine 53 = .ok (.istore_n 2, 1) := by decide +kernel
theorem dX7_crossLine_54 : decode cX7_crossLine 54 = .ok (.aload_n 0, 1) := by decide +kernel
theorem dX7_crossLine_55 : decode cX7_crossLine 55 = .ok (.iconst 0, 1) := by decide +kernel
theorem dX7_crossLine_56 : decode cX7_crossLine 56 = .ok (.bipush 99, 2) := by decide +kernel
theorem dX7_crossLine_58 : decode cX7_crossLine 58 = .ok (.invokevirtual 119, 3) := by decide +kernel
theorem dX7_crossLine_61 : decode cX7_crossLine 61 = .ok (.ifCond .ne 5, 3) := by decide +kernel
theorem dX7_crossLine_64 : decode cX7_crossLine 64 = .ok (.iconst 0, 1) := by decide +kernel
theorem dX7_crossLine_65 : decode cX7_crossLine 65 = .ok (.ireturn, 1) := by decide +kernel
theorem dX7_crossLine_66 : decode cX7_crossLine 66 = .ok (.aload_n 0, 1) := by decide +kernel
theorem dX7_crossLine_67 : decode cX7_crossLine 67 = .ok (.getfield 12, 3) := by decide +kernel
theorem dX7_crossLine_70 : decode cX7_crossLine 70 = .ok (.iload_n 1, 1) := by decide +kernel
theorem dX7_crossLine_71 : decode cX7_crossLine 71 = .ok (.iload_n 2, 1) := by decide +kernel
theorem dX7_crossLine_72 : decode cX7_crossLine 72 = .ok (.aload_n 0, 1) := by decide +kernel
theorem dX7_crossLine_73 : decode cX7_crossLine 73 = .ok (.getfield 105, 3) := by decide +kernel
theorem dX7_crossLine_76 : decode cX7_crossLine 76 = .ok (.invokevirtual 166, 3) := by decide +kernel
theorem dX7_crossLine_79 : decode cX7_crossLine 79 = .ok (.iconst 1, 1) := by decide +kernel
theorem dX7_crossLine_80 : decode cX7_crossLine 80 = .ok (.ireturn, 1) := by decide +kernel
theorem dX7_plankLine_0 : decode cX7_plankLine 0 = .ok (.aload_n 0, 1) := by decide +kernel
theorem dX7_plankLine_1 : decode cX7_plankLine 1 = .ok (.getfield 12, 3) := by decide +kernel
theorem dX7_plankLine_4 : decode cX7_plankLine 4 = .ok (.getfield 169, 3) := by decide +kernel
theorem dX7_plankLine_7 : decode cX7_plankLine 7 = .ok (.ifCond .eq 9, 3) := by decide +kernel
theorem dX7_plankLine_10 : decode cX7_plankLine 10 = .ok (.aload_n 0, 1) := by decide +kernel
theorem dX7_plankLine_11 : decode cX7_plankLine 11 = .ok (.iconst 3, 1) := by decide +kernel
theorem dX7_plankLine_12 : decode cX7_plankLine 12 = .ok (.invokevirtual 86, 3) := by decide +kernel
theorem dX7_plankLine_15 : decode cX7_plankLine 15 = .ok (.ireturn, 1) := by decide +kernel
theorem dX7_plankLine_16 : decode cX7_plankLine 16 = .ok (.aload_n 0, 1) := by decide +kernel
theorem dX7_plankLine_17 : decode cX7_plankLine 17 = .ok (.getfield 12, 3) := by decide +kernel
theorem dX7_plankLine_20 : decode cX7_plankLine 20 = .ok (.iconst 1, 1) := by decide +kernel
theorem dX7_plankLine_21 : decode cX7_plankLine 21 = .ok (.putfield 169, 3) := by decide +kernel
theorem dX7_plankLine_24 : decode cX7_plankLine 24 = .ok (.aload_n 0, 1) := by decide +kernel
theorem dX7_plankLine_25 : decode cX7_plankLine 25 = .ok (.getfield 32, 3) := by decide +kernel
theorem dX7_plankLine_28 : decode cX7_plankLine 28 = .ok (.invokevirtual 99, 3) := by decide +kernel
theorem dX7_plankLine_31 : decode cX7_plankLine 31 = .ok (.aload_n 0, 1) := by decide +kernel
theorem dX7_plankLine_32 : decode cX7_plankLine 32 = .ok (.iconst 0, 1) := by decide +kernel
theorem dX7_plankLine_33 : decode cX7_plankLine 33 = .ok (.sipush 999, 3) := by decide +kernel
theorem dX7_plankLine_36 : decode cX7_plankLine 36 = .ok (.invokevirtual 119, 3) := by decide +kernel
theorem dX7_plankLine_39 : decode cX7_plankLine 39 = .ok (.ifCond .ne 5, 3) := by decide +kernel
theorem dX7_plankLine_42 : decode cX7_plankLine 42 = .ok (.iconst 0, 1) := by decide +kernel
theorem dX7_plankLine_43 : decode cX7_plankLine 43 = .ok (.ireturn, 1) := by decide +kernel
theorem dX7_plankLine_44 : decode cX7_plankLine 44 = .ok (.aload_n 0, 1) := by decide +kernel
theorem dX7_plankLine_45 : decode cX7_plankLine 45 = .ok (.getfield 23, 3) := by decide +kernel
theorem dX7_plankLine_48 : decode cX7_plankLine 48 = .ok (.aload_n 0, 1) := by decide +kernel
theorem dX7_plankLine_49 : decode cX7_plankLine 49 = .ok (.getfield 105, 3) := by decide +kernel
theorem dX7_plankLine_52 : decode cX7_plankLine 52 = .ok (.putfield 173, 3) := by decide +kernel
theorem dX7_plankLine_55 : decode cX7_plankLine 55 = .ok (.iconst 1, 1) := by decide +kernel
theorem dX7_plankLine_56 : decode cX7_plankLine 56 = .ok (.ireturn, 1) := by decide +kernel
theorem dX7_seedLine_0 : decode cX7_seedLine 0 = .ok (.aload_n 0, 1) := by decide +kernel
theorem dX7_seedLine_1 : decode cX7_seedLine 1 = .ok (.getfield 12, 3) := by decide +kernel
theorem dX7_seedLine_4 : decode cX7_seedLine 4 = .ok (.getfield 176, 3) := by decide +kernel
theorem dX7_seedLine_7 : decode cX7_seedLine 7 = .ok (.ifCond .eq 9, 3) := by decide +kernel
theorem dX7_seedLine_10 : decode cX7_seedLine 10 = .ok (.aload_n 0, 1) := by decide +kernel
theorem dX7_seedLine_11 : decode cX7_seedLine 11 = .ok (.iconst 3, 1) := by decide +kernel
theorem dX7_seedLine_12 : decode cX7_seedLine 12 = .ok (.invokevirtual 86, 3) := by decide +kernel
theorem dX7_seedLine_15 : decode cX7_seedLine 15 = .ok (.ireturn, 1) := by decide +kernel
theorem dX7_seedLine_16 : decode cX7_seedLine 16 = .ok (.aload_n 0, 1) := by decide +kernel
theorem dX7_seedLine_17 : decode cX7_seedLine 17 = .ok (.getfield 12, 3) := by decide +kernel
theorem dX7_seedLine_20 : decode cX7_seedLine 20 = .ok (.iconst 1, 1) := by decide +kernel
theorem dX7_seedLine_21 : decode cX7_seedLine 21 = .ok (.putfield 176, 3) := by decide +kernel
theorem dX7_seedLine_24 : decode cX7_seedLine 24 = .ok (.aload_n 0, 1) := by decide +kernel
theorem dX7_seedLine_25 : decode cX7_seedLine 25 = .ok (.getfield 32, 3) := by decide +kernel
theorem dX7_seedLine_28 : decode cX7_seedLine 28 = .ok (.invokevirtual 99, 3) := by decide +kernel
theorem dX7_seedLine_31 : decode cX7_seedLine 31 = .ok (.aload_n 0, 1) := by decide +kernel
theorem dX7_seedLine_32 : decode cX7_seedLine 32 = .ok (.iconst 0, 1) := by decide +kernel
theorem dX7_seedLine_33 : decode cX7_seedLine 33 = .ok (.ldc 179, 2) := by decide +kernel
theorem dX7_seedLine_35 : decode cX7_seedLine 35 = .ok (.invokevirtual 119, 3) := by decide +kernel
theorem dX7_seedLine_38 : decode cX7_seedLine 38 = .ok (.ireturn, 1) := by decide +kernel
theorem dX7_lawLine_0 : decode cX7_lawLine 0 = .ok (.aload_n 0, 1) := by decide +kernel
theorem dX7_lawLine_1 : decode cX7_lawLine 1 = .ok (.getfield 32, 3) := by decide +kernel
theorem dX7_lawLine_4 : decode cX7_lawLine 4 = .ok (.invokevirtual 99, 3) := by decide +kernel
theorem dX7_lawLine_7 : decode cX7_lawLine 7 = .ok (.aload_n 0, 1) := by decide +kernel
theorem dX7_lawLine_8 : decode cX7_lawLine 8 = .ok (.getfield 32, 3) := by decide +kernel
theorem dX7_lawLine_11 : decode cX7_lawLine 11 = .ok (.getfield 61, 3) := by decide +kernel
theorem dX7_lawLine_14 : decode cX7_lawLine 14 = .ok (.bipush 9, 2) := by decide +kernel
theorem dX7_lawLine_16 : decode cX7_lawLine 16 = .ok (.if_icmp .lt 15, 3) := by decide +kernel
theorem dX7_lawLine_19 : decode cX7_lawLine 19 = .ok (.aload_n 0, 1) := by decide +kernel
theorem dX7_lawLine_20 : decode cX7_lawLine 20 = .ok (.getfield 32, 3) := by decide +kernel
theorem dX7_lawLine_23 : decode cX7_lawLine 23 = .ok (.getfield 61, 3) := by decide +kernel
theorem dX7_lawLine_26 : decode cX7_lawLine 26 = .ok (.bipush 11, 2) := by decide +kernel
theorem dX7_lawLine_28 : decode cX7_lawLine 28 = .ok (.if_icmp .le 9, 3) := by decide +kernel
theorem dX7_lawLine_31 : decode cX7_lawLine 31 = .ok (.aload_n 0, 1) := by decide +kernel
theorem dX7_lawLine_32 : decode cX7_lawLine 32 = .ok (.iconst 1, 1) := by decide +kernel
theorem dX7_lawLine_33 : decode cX7_lawLine 33 = .ok (.invokevirtual 86, 3) := by decide +kernel
theorem dX7_lawLine_36 : decode cX7_lawLine 36 = .ok (.ireturn, 1) := by decide +kernel
theorem dX7_lawLine_37 : decode cX7_lawLine 37 = .ok (.aload_n 0, 1) := by decide +kernel
theorem dX7_lawLine_38 : decode cX7_lawLine 38 = .ok (.getfield 32, 3) := by decide +kernel
theorem dX7_lawLine_41 : decode cX7_lawLine 41 = .ok (.getfield 61, 3) := by decide +kernel
theorem dX7_lawLine_44 : decode cX7_lawLine 44 = .ok (.bipush 9, 2) := by decide +kernel
theorem dX7_lawLine_46 : decode cX7_lawLine 46 = .ok (.isub, 1) := by decide +kernel
theorem dX7_lawLine_47 : decode cX7_lawLine 47 = .ok (.istore_n 1, 1) := by decide +kernel
theorem dX7_lawLine_48 : decode cX7_lawLine 48 = .ok (.aload_n 0, 1) := by decide +kernel
theorem dX7_lawLine_49 : decode cX7_lawLine 49 = .ok (.getfield 12, 3) := by decide +kernel
theorem dX7_lawLine_52 : decode cX7_lawLine 52 = .ok (.getfield 180, 3) := by decide +kernel
theorem dX7_lawLine_55 : decode cX7_lawLine 55 = .ok (.getfield 184, 3) := by decide +kernel
theorem dX7_lawLine_58 : decode cX7_lawLine 58 = .ok (.iload_n 1, 1) := by decide +kernel
theorem dX7_lawLine_59 : decode cX7_lawLine 59 = .ok (.iaload, 1) := by decide +kernel
theorem dX7_lawLine_60 : decode cX7_lawLine 60 = .ok (.iconst (-1), 1) := by decide +kernel
theorem dX7_lawLine_61 : decode cX7_lawLine 61 = .ok (.if_icmp .eq 9, 3) := by decide +kernel
theorem dX7_lawLine_64 : decode cX7_lawLine 64 = .ok (.aload_n 0, 1) := by decide +kernel
theorem dX7_lawLine_65 : decode cX7_lawLine 65 = .ok (.iconst 3, 1) := by decide +kernel
theorem dX7_lawLine_66 : decode cX7_lawLine 66 = .ok (.invokevirtual 86, 3) := by decide +kernel
theorem dX7_lawLine_69 : decode cX7_lawLine 69 = .ok (.ireturn, 1) := by decide +kernel
theorem dX7_lawLine_70 : decode cX7_lawLine 70 = .ok (.aload_n 0, 1) := by decide +kernel
theorem dX7_lawLine_71 : decode cX7_lawLine 71 = .ok (.getfield 32, 3) := by decide +kernel
theorem dX7_lawLine_74 : decode cX7_lawLine 74 = .ok (.invokevirtual 99, 3) := by decide +kernel
theorem dX7_lawLine_77 : decode cX7_lawLine 77 = .ok (.aload_n 0, 1) := by decide +kernel
theorem dX7_lawLine_78 : decode cX7_lawLine 78 = .ok (.getfield 41, 3) := by decide +kernel
theorem dX7_lawLine_81 : decode cX7_lawLine 81 = .ok (.aload_n 0, 1) := by decide +kernel
theorem dX7_lawLine_82 : decode cX7_lawLine 82 = .ok (.getfield 12, 3) := by decide +kernel
theorem dX7_lawLine_85 : decode cX7_lawLine 85 = .ok (.getfield 180, 3) := by decide +kernel
theorem dX7_lawLine_88 : decode cX7_lawLine 88 = .ok (.iload_n 1, 1) := by decide +kernel
theorem dX7_lawLine_89 : decode cX7_lawLine 89 = .ok (.invokevirtual 189, 3) := by decide +kernel
theorem dX7_lawLine_92 : decode cX7_lawLine 92 = .ok (.istore_n 2, 1) := by decide +kernel
theorem dX7_lawLine_93 : decode cX7_lawLine 93 = .ok (.iload_n 2, 1) := by decide +kernel
theorem dX7_lawLine_94 : decode cX7_lawLine 94 = .ok (.ifCond .eq 11, 3) := by decide +kernel
theorem dX7_lawLine_97 : decode cX7_lawLine 97 = .ok (.aload_n 0, 1) := by decide +kernel
theorem dX7_lawLine_98 : decode cX7_lawLine 98 = .ok (.iload_n 2, 1) := by decide +kernel
theorem dX7_lawLine_99 : decode cX7_lawLine 99 = .ok (.invokevirtual 86, 3) := by decide +kernel
theorem dX7_lawLine_102 : decode cX7_lawLine 102 = .ok (.ifCond .eq 7, 3) := by decide +kernel
theorem dX7_lawLine_105 : decode cX7_lawLine 105 = .ok (.iconst 1, 1) := by decide +kernel
theorem dX7_lawLine_106 : decode cX7_lawLine 106 = .ok (.goto 4, 3) := by decide +kernel
theorem dX7_lawLine_109 : decode cX7_lawLine 109 = .ok (.iconst 0, 1) := by decide +kernel
theorem dX7_lawLine_110 : decode cX7_lawLine 110 = .ok (.ireturn, 1) := by decide +kernel
theorem dX8_init_0 : decode cX8_init 0 = .ok (.aload_n 0, 1) := by decide +kernel
theorem dX8_init_1 : decode cX8_init 1 = .ok (.invokespecial 3, 3) := by decide +kernel
theorem dX8_init_4 : decode cX8_init 4 = .ok (.aload_n 0, 1) := by decide +kernel
theorem dX8_init_5 : decode cX8_init 5 = .ok (.aload_n 1, 1) := by decide +kernel
theorem dX8_init_6 : decode cX8_init 6 = .ok (.putfield 9, 3) := by decide +kernel
theorem dX8_init_9 : decode cX8_init 9 = .ok (.return_, 1) := by decide +kernel
theorem dX8_begin_0 : decode cX8_begin 0 = .ok (.aload_n 0, 1) := by decide +kernel
theorem dX8_begin_1 : decode cX8_begin 1 = .ok (.iconst 0, 1) := by decide +kernel
theorem dX8_begin_2 : decode cX8_begin 2 = .ok (.iload_n 1, 1) := by decide +kernel
theorem dX8_begin_3 : decode cX8_begin 3 = .ok (.aload_n 0, 1) := by decide +kernel
theorem dX8_begin_4 : decode cX8_begin 4 = .ok (.getfield 9, 3) := by decide +kernel
theorem dX8_begin_7 : decode cX8_begin 7 = .ok (.arraylength, 1) := by decide +kernel
theorem dX8_begin_8 : decode cX8_begin 8 = .ok (.invokestatic 15, 3) := by decide +kernel
theorem dX8_begin_11 : decode cX8_begin 11 = .ok (.invokestatic 21, 3) := by decide +kernel
theorem dX8_begin_14 : decode cX8_begin 14 = .ok (.putfield 24, 3) := by decide +kernel
theorem dX8_begin_17 : decode cX8_begin 17 = .ok (.aload_n 0, 1) := by decide +kernel
theorem dX8_begin_18 : decode cX8_begin 18 = .ok (.iconst 0, 1) := by decide +kernel
theorem dX8_begin_19 : decode cX8_begin 19 = .ok (.putfield 28, 3) := by decide +kernel
theorem dX8_begin_22 : decode cX8_begin 22 = .ok (.aload_n 0, 1) := by decide +kernel
theorem dX8_begin_23 : decode cX8_begin 23 = .ok (.invokevirtual 31, 3) := by decide +kernel
theorem dX8_begin_26 : decode cX8_begin 26 = .ok (.return_, 1) := by decide +kernel
theorem dX8_advance_0 : decode cX8_advance 0 = .ok (.aload_n 0, 1) := by decide +kernel
theorem dX8_advance_1 : decode cX8_advance 1 = .ok (.getfield 28, 3) := by decide +kernel
theorem dX8_advance_4 : decode cX8_advance 4 = .ok (.aload_n 0, 1) := by decide +kernel
theorem dX8_advance_5 : decode cX8_advance 5 = .ok (.getfield 24, 3) := by decide +kernel
theorem dX8_advance_8 : decode cX8_advance 8 = .ok (.if_icmp .ge 44, 3) := by decide +kernel
theorem dX8_advance_11 : decode cX8_advance 11 = .ok (.aload_n 0, 1) := by decide +kernel
theorem dX8_advance_12 : decode cX8_advance 12 = .ok (.getfield 9, 3) := by decide +kernel
theorem dX8_advance_15 : decode cX8_advance 15 = .ok (.aload_n 0, 1) := by decide +kernel
theorem dX8_advance_16 : decode cX8_advance 16 = .ok (.getfield 28, 3) := by decide +kernel
theorem dX8_advance_19 : decode cX8_advance 19 = .ok (.baload, 1) := by decide +kernel
theorem dX8_advance_20 : decode cX8_advance 20 = .ok (.bipush 10, 2) := by decide +kernel
theorem dX8_advance_22 : decode cX8_advance 22 = .ok (.if_icmp .eq 17, 3) := by decide +kernel
theorem dX8_advance_25 : decode cX8_advance 25 = .ok (.aload_n 0, 1) := by decide +kernel
theorem dX8_advance_26 : decode cX8_advance 26 = .ok (.getfield 9, 3) := by decide +kernel
theorem dX8_advance_29 : decode cX8_advance 29 = .ok (.aload_n 0, 1) := by decide +kernel
theorem dX8_advance_30 : decode cX8_advance 30 = .ok (.getfield 28, 3) := by decide +kernel
theorem dX8_advance_33 : decode cX8_advance 33 = .ok (.baload, 1) := by decide +kernel
theorem dX8_advance_34 : decode cX8_advance 34 = .ok (.bipush 32, 2) := by decide +kernel
theorem dX8_advance_36 : decode cX8_advance 36 = .ok (.if_icmp .ne 16, 3) := by decide +kernel
theorem dX8_advance_39 : decode cX8_advance 39 = .ok (.aload_n 0, 1) := by decide +kernel
theorem dX8_advance_40 : decode cX8_advance 40 = .ok (.dup, 1) := by decide +kernel
theorem dX8_advance_41 : decode cX8_advance 41 = .ok (.getfield 28, 3) := by decide +kernel
theorem dX8_advance_44 : decode cX8_advance 44 = .ok (.iconst 1, 1) := by decide +kernel
theorem dX8_advance_45 : decode cX8_advance 45 = .ok (.iadd, 1) := by decide +kernel
theorem dX8_advance_46 : decode cX8_advance 46 = .ok (.putfield 28, 3) := by decide +kernel
theorem dX8_advance_49 : decode cX8_advance 49 = .ok (.goto (-49), 3) := by decide +kernel
theorem dX8_advance_52 : decode cX8_advance 52 = .ok (.aload_n 0, 1) := by decide +kernel
theorem dX8_advance_53 : decode cX8_advance 53 = .ok (.aload_n 0, 1) := by decide +kernel
theorem dX8_advance_54 : decode cX8_advance 54 = .ok (.getfield 28, 3) := by decide +kernel
theorem dX8_advance_57 : decode cX8_advance 57 = .ok (.putfield 34, 3) := by decide +kernel
theorem dX8_advance_60 : decode cX8_advance 60 = .ok (.aload_n 0, 1) := by decide +kernel
theorem dX8_advance_61 : decode cX8_advance 61 = .ok (.getfield 28, 3) := by decide +kernel
theorem dX8_advance_64 : decode cX8_advance 64 = .ok (.aload_n 0, 1) := by decide +kernel
theorem dX8_advance_65 : decode cX8_advance 65 = .ok (.getfield 24, 3) := by decide +kernel
theorem dX8_advance_68 : decode cX8_advance 68 = .ok (.if_icmp .lt 12, 3) := by decide +kernel
theorem dX8_advance_71 : decode cX8_advance 71 = .ok (.aload_n 0, 1) := by decide +kernel
theorem dX8_advance_72 : decode cX8_advance 72 = .ok (.bipush 38, 2) := by decide +kernel
theorem dX8_advance_74 : decode cX8_advance 74 = .ok (.putfield 37, 3) := by decide +kernel
theorem dX8_advance_77 : decode cX8_advance 77 = .ok (.goto 51, 3) := by decide +kernel
theorem dX8_advance_80 : decode cX8_advance 80 = .ok (.aload_n 0, 1) := by decide +kernel
theorem dX8_advance_81 : decode cX8_advance 81 = .ok (.getfield 9, 3) := by decide +kernel
theorem dX8_advance_84 : decode cX8_advance 84 = .ok (.aload_n 0, 1) := by decide +kernel
theorem dX8_advance_85 : decode cX8_advance 85 = .ok (.getfield 28, 3) := by decide +kernel
theorem dX8_advance_88 : decode cX8_advance 88 = .ok (.baload, 1) := by decide +kernel
theorem dX8_advance_89 : decode cX8_advance 89 = .ok (.invokestatic 40, 3) := by decide +kernel
theorem dX8_advance_92 : decode cX8_advance 92 = .ok (.ifCond .eq 10, 3) := by decide +kernel
theorem dX8_advance_95 : decode cX8_advance 95 = .ok (.aload_n 0, 1) := by decide +kernel
theorem dX8_advance_96 : decode cX8_advance 96 = .ok (.invokevirtual 44, 3) := by decide +kernel
theorem dX8_advance_99 : decode cX8_advance 99 = .ok (.goto 29, 3) := by decide +kernel
theorem dX8_advance_102 : decode cX8_advance 102 = .ok (.aload_n 0, 1) := by decide +kernel
theorem dX8_advance_103 : decode cX8_advance 103 = .ok (.getfield 9, 3) := by decide +kernel
theorem dX8_advance_106 : decode cX8_advance 106 = .ok (.aload_n 0, 1) := by decide +kernel
theorem dX8_advance_107 : decode cX8_advance 107 = .ok (.getfield 28, 3) := by decide +kernel
theorem dX8_advance_110 : decode cX8_advance 110 = .ok (.baload, 1) := by decide +kernel
theorem dX8_advance_111 : decode cX8_advance 111 = .ok (.invokestatic 47, 3) := by decide +kernel
theorem dX8_advance_114 : decode cX8_advance 114 = .ok (.ifCond .eq 10, 3) := by decide +kernel
theorem dX8_advance_117 : decode cX8_advance 117 = .ok (.aload_n 0, 1) := by decide +kernel
theorem dX8_advance_118 : decode cX8_advance 118 = .ok (.invokevirtual 50, 3) := by decide +kernel
theorem dX8_advance_121 : decode cX8_advance 121 = .ok (.goto 7, 3) := by decide +kernel
theorem dX8_advance_124 : decode cX8_advance 124 = .ok (.aload_n 0, 1) := by decide +kernel
theorem dX8_advance_125 : decode cX8_advance 125 = .ok (.invokevirtual 53, 3) := by decide +kernel
theorem dX8_advance_128 : decode cX8_advance 128 = .ok (.return_, 1) := by decide +kernel
theorem dX8_isLetter_0 : decode cX8_isLetter 0 = .ok (.iload_n 0, 1) := by decide +kernel
theorem dX8_isLetter_1 : decode cX8_isLetter 1 = .ok (.bipush 97, 2) := by decide +kernel
theorem dX8_isLetter_3 : decode cX8_isLetter 3 = .ok (.if_icmp .lt 13, 3) := by decide +kernel
theorem dX8_isLetter_6 : decode cX8_isLetter 6 = .ok (.iload_n 0, 1) := by decide +kernel
theorem dX8_isLetter_7 : decode cX8_isLetter 7 = .ok (.bipush 122, 2) := by decide +kernel
theorem dX8_isLetter_9 : decode cX8_isLetter 9 = .ok (.if_icmp .gt 7, 3) := by decide +kernel
theorem dX8_isLetter_12 : decode cX8_isLetter 12 = .ok (.iconst 1, 1) := by decide +kernel
theorem dX8_isLetter_13 : decode cX8_isLetter 13 = .ok (.goto 4, 3) := by decide +kernel
theorem dX8_isLetter_16 : decode cX8_isLetter 16 = .ok (.iconst 0, 1) := by decide +kernel
theorem dX8_isLetter_17 : decode cX8_isLetter 17 = .ok (.ireturn, 1) := by decide +kernel
theorem dX8_isDigit_0 : decode cX8_isDigit 0 = .ok (.iload_n 0, 1) := by decide +kernel
theorem dX8_isDigit_1 : decode cX8_isDigit 1 = .ok (.bipush 48, 2) := by decide +kernel
theorem dX8_isDigit_3 : decode cX8_isDigit 3 = .ok (.if_icmp .lt 13, 3) := by decide +kernel
theorem dX8_isDigit_6 : decode cX8_isDigit 6 = .ok (.iload_n 0, 1) := by decide +kernel
theorem dX8_isDigit_7 : decode cX8_isDigit 7 = .ok (.bipush 57, 2) := by decide +kernel
theorem dX8_isDigit_9 : decode cX8_isDigit 9 = .ok (.if_icmp .gt 7, 3) := by decide +kernel
theorem dX8_isDigit_12 : decode cX8_isDigit 12 = .ok (.iconst 1, 1) := by decide +kernel
theorem dX8_isDigit_13 : decode cX8_isDigit 13 = .ok (.goto 4, 3) := by decide +kernel
theorem dX8_isDigit_16 : decode cX8_isDigit 16 = .ok (.iconst 0, 1) := by decide +kernel
theorem dX8_isDigit_17 : decode cX8_isDigit 17 = .ok (.ireturn, 1) := by decide +kernel
theorem dX8_readWord_0 : decode cX8_readWord 0 = .ok (.aload_n 0, 1) := by decide +kernel
theorem dX8_readWord_1 : decode cX8_readWord 1 = .ok (.iconst 0, 1) := by decide +kernel
theorem dX8_readWord_2 : decode cX8_readWord 2 = .ok (.putfield 56, 3) := by decide +kernel
theorem dX8_readWord_5 : decode cX8_readWord 5 = .ok (.iconst 0, 1) := by decide +kernel
theorem dX8_readWord_6 : decode cX8_readWord 6 = .ok (.istore_n 1, 1) := by decide +kernel
theorem dX8_readWord_7 : decode cX8_readWord 7 = .ok (.aload_n 0, 1) := by decide +kernel
theorem dX8_readWord_8 : decode cX8_readWord 8 = .ok (.getfield 28, 3) := by decide +kernel
theorem dX8_readWord_11 : decode cX8_readWord 11 = .ok (.aload_n 0, 1) := by decide +kernel
theorem dX8_readWord_12 : decode cX8_readWord 12 = .ok (.getfield 24, 3) := by decide +kernel
theorem dX8_readWord_15 : decode cX8_readWord 15 = .ok (.if_icmp .ge 65, 3) := by decide +kernel
theorem dX8_readWord_18 : decode cX8_readWord 18 = .ok (.aload_n 0, 1) := by decide +kernel
theorem dX8_readWord_19 : decode cX8_readWord 19 = .ok (.getfield 9, 3) := by decide +kernel
theorem dX8_readWord_22 : decode cX8_readWord 22 = .ok (.aload_n 0, 1) := by decide +kernel
theorem dX8_readWord_23 : decode cX8_readWord 23 = .ok (.getfield 28, 3) := by decide +kernel
theorem dX8_readWord_26 : decode cX8_readWord 26 = .ok (.baload, 1) := by decide +kernel
theorem dX8_readWord_27 : decode cX8_readWord 27 = .ok (.invokestatic 40, 3) := by decide +kernel
theorem dX8_readWord_30 : decode cX8_readWord 30 = .ok (.ifCond .eq 50, 3) := by decide +kernel
theorem dX8_readWord_33 : decode cX8_readWord 33 = .ok (.iload_n 1, 1) := by decide +kernel
theorem dX8_readWord_34 : decode cX8_readWord 34 = .ok (.bipush 6, 2) := by decide +kernel
theorem dX8_readWord_36 : decode cX8_readWord 36 = .ok (.if_icmp .ge 28, 3) := by decide +kernel
theorem dX8_readWord_39 : decode cX8_readWord 39 = .ok (.aload_n 0, 1) := by decide +kernel
theorem dX8_readWord_40 : decode cX8_readWord 40 = .ok (.aload_n 0, 1) := by decide +kernel
theorem dX8_readWord_41 : decode cX8_readWord 41 = .ok (.getfield 56, 3) := by decide +kernel
theorem dX8_readWord_44 : decode cX8_readWord 44 = .ok (.iconst 5, 1) := by decide +kernel
theorem dX8_readWord_45 : decode cX8_readWord 45 = .ok (.ishl, 1) := by decide +kernel
theorem dX8_readWord_46 : decode cX8_readWord 46 = .ok (.aload_n 0, 1) := by decide +kernel
theorem dX8_readWord_47 : decode cX8_readWord 47 = .ok (.getfield 9, 3) := by decide +kernel
theorem dX8_readWord_50 : decode cX8_readWord 50 = .ok (.aload_n 0, 1) := by decide +kernel
theorem dX8_readWord_51 : decode cX8_readWord 51 = .ok (.getfield 28, 3) := by decide +kernel
theorem dX8_readWord_54 : decode cX8_readWord 54 = .ok (.baload, 1) := by decide +kernel
theorem dX8_readWord_55 : decode cX8_readWord 55 = .ok (.bipush 97, 2) := by decide +kernel
theorem dX8_readWord_57 : decode cX8_readWord 57 = .ok (.isub, 1) := by decide +kernel
theorem dX8_readWord_58 : decode cX8_readWord 58 = .ok (.iconst 1, 1) := by decide +kernel
theorem dX8_readWord_59 : decode cX8_readWord 59 = .ok (.iadd, 1) := by decide +kernel
theorem dX8_readWord_60 : decode cX8_readWord 60 = .ok (.ior, 1) := by decide +kernel
theorem dX8_readWord_61 : decode cX8_readWord 61 = .ok (.putfield 56, 3) := by decide +kernel
theorem dX8_readWord_64 : decode cX8_readWord 64 = .ok (.iinc 1 1, 3) := by decide +kernel
theorem dX8_readWord_67 : decode cX8_readWord 67 = .ok (.aload_n 0, 1) := by decide +kernel
theorem dX8_readWord_68 : decode cX8_readWord 68 = .ok (.dup, 1) := by decide +kernel
theorem dX8_readWord_69 : decode cX8_readWord 69 = .ok (.getfield 28, 3) := by decide +kernel
theorem dX8_readWord_72 : decode cX8_readWord 72 = .ok (.iconst 1, 1) := by decide +kernel
theorem dX8_readWord_73 : decode cX8_readWord 73 = .ok (.iadd, 1) := by decide +kernel
theorem dX8_readWord_74 : decode cX8_readWord 74 = .ok (.putfield 28, 3) := by decide +kernel
theorem dX8_readWord_77 : decode cX8_readWord 77 = .ok (.goto (-70), 3) := by decide +kernel
theorem dX8_readWord_80 : decode cX8_readWord 80 = .ok (.aload_n 0, 1) := by decide +kernel
theorem dX8_readWord_81 : decode cX8_readWord 81 = .ok (.aload_n 0, 1) := by decide +kernel
theorem dX8_readWord_82 : decode cX8_readWord 82 = .ok (.iload_n 1, 1) := by decide +kernel
theorem dX8_readWord_83 : decode cX8_readWord 83 = .ok (.invokevirtual 59, 3) := by decide +kernel
theorem dX8_readWord_86 : decode cX8_readWord 86 = .ok (.putfield 37, 3) := by decide +kernel
theorem dX8_readWord_89 : decode cX8_readWord 89 = .ok (.aload_n 0, 1) := by decide +kernel
theorem dX8_readWord_90 : decode cX8_readWord 90 = .ok (.getfield 37, 3) := by decide +kernel
theorem dX8_readWord_93 : decode cX8_readWord 93 = .ok (.iconst (-1), 1) := by decide +kernel
theorem dX8_readWord_94 : decode cX8_readWord 94 = .ok (.if_icmp .ne 20, 3) := by decide +kernel
theorem dX8_readWord_97 : decode cX8_readWord 97 = .ok (.aload_n 0, 1) := by decide +kernel
theorem dX8_readWord_98 : decode cX8_readWord 98 = .ok (.iload_n 1, 1) := by decide +kernel
theorem dX8_readWord_99 : decode cX8_readWord 99 = .ok (.bipush 6, 2) := by decide +kernel
theorem dX8_readWord_101 : decode cX8_readWord 101 = .ok (.if_icmp .gt 8, 3) := by decide +kernel
theorem dX8_readWord_104 : decode cX8_readWord 104 = .ok (.bipush 37, 2) := by decide +kernel
theorem dX8_readWord_106 : decode cX8_readWord 106 = .ok (.goto 5, 3) := by decide +kernel
theorem dX8_readWord_109 : decode cX8_readWord 109 = .ok (.bipush 39, 2) := by decide +kernel
theorem dX8_readWord_111 : decode cX8_readWord 111 = .ok (.putfield 37, 3) := by decide +kernel
theorem dX8_readWord_114 : decode cX8_readWord 114 = .ok (.aload_n 0, 1) := by decide +kernel
theorem dX8_readWord_115 : decode cX8_readWord 115 = .ok (.iload_n 1, 1) := by decide +kernel
theorem dX8_readWord_116 : decode cX8_readWord 116 = .ok (.bipush 6, 2) := by decide +kernel
theorem dX8_readWord_118 : decode cX8_readWord 118 = .ok (.if_icmp .ge 17, 3) := by decide +kernel
theorem dX8_readWord_121 : decode cX8_readWord 121 = .ok (.aload_n 0, 1) := by decide +kernel
theorem dX8_readWord_122 : decode cX8_readWord 122 = .ok (.getfield 56, 3) := by decide +kernel
theorem dX8_readWord_125 : decode cX8_readWord 125 = .ok (.iconst 5, 1) := by decide +kernel
theorem dX8_readWord_126 : decode cX8_readWord 126 = .ok (.bipush 6, 2) := by decide +kernel
theorem dX8_readWord_128 : decode cX8_readWord 128 = .ok (.iload_n 1, 1) := by decide +kernel
theorem dX8_readWord_129 : decode cX8_readWord 129 = .ok (.isub, 1) := by decide +kernel
theorem dX8_readWord_130 : decode cX8_readWord 130 = .ok (.imul, 1) := by decide +kernel
theorem dX8_readWord_131 : decode cX8_readWord 131 = .ok (.ishl, 1) := by decide +kernel
theorem dX8_readWord_132 : decode cX8_readWord 132 = .ok (.goto 7, 3) := by decide +kernel
theorem dX8_readWord_135 : decode cX8_readWord 135 = .ok (.aload_n 0, 1) := by decide +kernel
theorem dX8_readWord_136 : decode cX8_readWord 136 = .ok (.getfield 56, 3) := by decide +kernel
theorem dX8_readWord_139 : decode cX8_readWord 139 = .ok (.putfield 56, 3) := by decide +kernel
theorem dX8_readWord_142 : decode cX8_readWord 142 = .ok (.return_, 1) := by decide +kernel
theorem dX8_wordKind_0 : decode cX8_wordKind 0 = .ok (.iconst 0, 1) := by decide +kernel
theorem dX8_wordKind_1 : decode cX8_wordKind 1 = .ok (.istore_n 2, 1) := by decide +kernel
theorem dX8_wordKind_2 : decode cX8_wordKind 2 = .ok (.iconst 0, 1) := by decide +kernel
theorem dX8_wordKind_3 : decode cX8_wordKind 3 = .ok (.istore_n 3, 1) := by decide +kernel
theorem dX8_wordKind_4 : decode cX8_wordKind 4 = .ok (.iconst 1, 1) := by decide +kernel
theorem dX8_wordKind_5 : decode cX8_wordKind 5 = .ok (.istore 4, 2) := by decide +kernel
theorem dX8_wordKind_7 : decode cX8_wordKind 7 = .ok (.iconst 0, 1) := by decide +kernel
theorem dX8_wordKind_8 : decode cX8_wordKind 8 = .ok (.istore 5, 2) := by decide +kernel
theorem dX8_wordKind_10 : decode cX8_wordKind 10 = .ok (.iload 5, 2) := by decide +kernel
theorem dX8_wordKind_12 : decode cX8_wordKind 12 = .ok (.ldc 63, 2) := by decide +kernel
theorem dX8_wordKind_14 : decode cX8_wordKind 14 = .ok (.invokevirtual 65, 3) := by decide +kernel
theorem dX8_wordKind_17 : decode cX8_wordKind 17 = .ok (.if_icmp .ge 97, 3) := by decide +kernel
theorem dX8_wordKind_20 : decode cX8_wordKind 20 = .ok (.ldc 63, 2) := by decide +kernel
theorem dX8_wordKind_22 : decode cX8_wordKind 22 = .ok (.iload 5, 2) := by decide +kernel
theorem dX8_wordKind_24 : decode cX8_wordKind 24 = .ok (.invokevirtual 70, 3) := by decide +kernel
theorem dX8_wordKind_27 : decode cX8_wordKind 27 = .ok (.istore 6, 2) := by decide +kernel
theorem dX8_wordKind_29 : decode cX8_wordKind 29 = .ok (.iload 6, 2) := by decide +kernel
theorem dX8_wordKind_31 : decode cX8_wordKind 31 = .ok (.bipush 32, 2) := by decide +kernel
theorem dX8_wordKind_33 : decode cX8_wordKind 33 = .ok (.if_icmp .eq 55, 3) := by decide +kernel
theorem dX8_wordKind_36 : decode cX8_wordKind 36 = .ok (.iload 4, 2) := by decide +kernel
theorem dX8_wordKind_38 : decode cX8_wordKind 38 = .ok (.ifCond .eq 41, 3) := by decide +kernel
theorem dX8_wordKind_41 : decode cX8_wordKind 41 = .ok (.iload_n 3, 1) := by decide +kernel
theorem dX8_wordKind_42 : decode cX8_wordKind 42 = .ok (.iload_n 1, 1) := by decide +kernel
theorem dX8_wordKind_43 : decode cX8_wordKind 43 = .ok (.if_icmp .ge 36, 3) := by decide +kernel
theorem dX8_wordKind_46 : decode cX8_wordKind 46 = .ok (.aload_n 0, 1) := by decide +kernel
theorem dX8_wordKind_47 : decode cX8_wordKind 47 = .ok (.getfield 34, 3) := by decide +kernel
theorem dX8_wordKind_50 : decode cX8_wordKind 50 = .ok (.iload_n 3, 1) := by decide +kernel
theorem dX8_wordKind_51 : decode cX8_wordKind 51 = .ok (.iadd, 1) := by decide +kernel
theorem dX8_wordKind_52 : decode cX8_wordKind 52 = .ok (.aload_n 0, 1) := by decide +kernel
theorem dX8_wordKind_53 : decode cX8_wordKind 53 = .ok (.getfield 24, 3) := by decide +kernel
theorem dX8_wordKind_56 : decode cX8_wordKind 56 = .ok (.if_icmp .ge 23, 3) := by decide +kernel
theorem dX8_wordKind_59 : decode cX8_wordKind 59 = .ok (.aload_n 0, 1) := by decide +kernel
theorem dX8_wordKind_60 : decode cX8_wordKind 60 = .ok (.getfield 9, 3) := by decide +kernel
theorem dX8_wordKind_63 : decode cX8_wordKind 63 = .ok (.aload_n 0, 1) := by decide +kernel
theorem dX8_wordKind_64 : decode cX8_wordKind 64 = .ok (.getfield 34, 3) := by decide +kernel
theorem dX8_wordKind_67 : decode cX8_wordKind 67 = .ok (.iload_n 3, 1) := by decide +kernel
theorem dX8_wordKind_68 : decode cX8_wordKind 68 = .ok (.iadd, 1) := by decide +kernel
theorem dX8_wordKind_69 : decode cX8_wordKind 69 = .ok (.baload, 1) := by decide +kernel
theorem dX8_wordKind_70 : decode cX8_wordKind 70 = .ok (.iload 6, 2) := by decide +kernel
theorem dX8_wordKind_72 : decode cX8_wordKind 72 = .ok (.if_icmp .ne 7, 3) := by decide +kernel
theorem dX8_wordKind_75 : decode cX8_wordKind 75 = .ok (.iconst 1, 1) := by decide +kernel
theorem dX8_wordKind_76 : decode cX8_wordKind 76 = .ok (.goto 4, 3) := by decide +kernel
theorem dX8_wordKind_79 : decode cX8_wordKind 79 = .ok (.iconst 0, 1) := by decide +kernel
theorem dX8_wordKind_80 : decode cX8_wordKind 80 = .ok (.istore 4, 2) := by decide +kernel
theorem dX8_wordKind_82 : decode cX8_wordKind 82 = .ok (.iinc 3 1, 3) := by decide +kernel
theorem dX8_wordKind_85 : decode cX8_wordKind 85 = .ok (.goto 23, 3) := by decide +kernel
theorem dX8_wordKind_88 : decode cX8_wordKind 88 = .ok (.iload 4, 2) := by decide +kernel
theorem dX8_wordKind_90 : decode cX8_wordKind 90 = .ok (.ifCond .eq 10, 3) := by decide +kernel
theorem dX8_wordKind_93 : decode cX8_wordKind 93 = .ok (.iload_n 3, 1) := by decide +kernel
theorem dX8_wordKind_94 : decode cX8_wordKind 94 = .ok (.iload_n 1, 1) := by decide +kernel
theorem dX8_wordKind_95 : decode cX8_wordKind 95 = .ok (.if_icmp .ne 5, 3) := by decide +kernel
theorem dX8_wordKind_98 : decode cX8_wordKind 98 = .ok (.iload_n 2, 1) := by decide +kernel
theorem dX8_wordKind_99 : decode cX8_wordKind 99 = .ok (.ireturn, 1) := by decide +kernel
theorem dX8_wordKind_100 : decode cX8_wordKind 100 = .ok (.iinc 2 1, 3) := by decide +kernel
theorem dX8_wordKind_103 : decode cX8_wordKind 103 = .ok (.iconst 0, 1) := by decide +kernel
theorem dX8_wordKind_104 : decode cX8_wordKind 104 = .ok (.istore_n 3, 1) := by decide +kernel
theorem dX8_wordKind_105 : decode cX8_wordKind 105 = .ok (.iconst 1, 1) := by decide +kernel
theorem dX8_wordKind_106 : decode cX8_wordKind 106 = .ok (.istore 4, 2) := by decide +kernel
theorem dX8_wordKind_108 : decode cX8_wordKind 108 = .ok (.iinc 5 1, 3) := by decide +kernel
theorem dX8_wordKind_111 : decode cX8_wordKind 111 = .ok (.goto (-101), 3) := by decide +kernel
theorem dX8_wordKind_114 : decode cX8_wordKind 114 = .ok (.iconst (-1), 1) := by decide +kernel
theorem dX8_wordKind_115 : decode cX8_wordKind 115 = .ok (.ireturn, 1) := by decide +kernel
theorem dX8_readNumber_0 : decode cX8_readNumber 0 = .ok (.aload_n 0, 1) := by decide +kernel
theorem dX8_readNumber_1 : decode cX8_readNumber 1 = .ok (.bipush 36, 2) := by decide +kernel
theorem dX8_readNumber_3 : decode cX8_readNumber 3 = .ok (.putfield 37, 3) := by decide +kernel
theorem dX8_readNumber_6 : decode cX8_readNumber 6 = .ok (.aload_n 0, 1) := by decide +kernel
theorem dX8_readNumber_7 : decode cX8_readNumber 7 = .ok (.iconst 0, 1) := by decide +kernel
theorem dX8_readNumber_8 : decode cX8_readNumber 8 = .ok (.putfield 56, 3) := by decide +kernel
theorem dX8_readNumber_11 : decode cX8_readNumber 11 = .ok (.aload_n 0, 1) := by decide +kernel
theorem dX8_readNumber_12 : decode cX8_readNumber 12 = .ok (.getfield 28, 3) := by decide +kernel
theorem dX8_readNumber_15 : decode cX8_readNumber 15 = .ok (.aload_n 0, 1) := by decide +kernel
theorem dX8_readNumber_16 : decode cX8_readNumber 16 = .ok (.getfield 24, 3) := by decide +kernel
theorem dX8_readNumber_19 : decode cX8_readNumber 19 = .ok (.if_icmp .ge 60, 3) := by decide +kernel
theorem dX8_readNumber_22 : decode cX8_readNumber 22 = .ok (.aload_n 0, 1) := by decide +kernel
theorem dX8_readNumber_23 : decode cX8_readNumber 23 = .ok (.getfield 9, 3) := by decide +kernel
theorem dX8_readNumber_26 : decode cX8_readNumber 26 = .ok (.aload_n 0, 1) := by decide +kernel
theorem dX8_readNumber_27 : decode cX8_readNumber 27 = .ok (.getfield 28, 3) := by decide +kernel
theorem dX8_readNumber_30 : decode cX8_readNumber 30 = .ok (.baload, 1) := by decide +kernel
theorem dX8_readNumber_31 : decode cX8_readNumber 31 = .ok (.invokestatic 47, 3) := by decide +kernel
theorem dX8_readNumber_34 : decode cX8_readNumber 34 = .ok (.ifCond .eq 45, 3) := by decide +kernel
theorem dX8_readNumber_37 : decode cX8_readNumber 37 = .ok (.aload_n 0, 1) := by decide +kernel
theorem dX8_readNumber_38 : decode cX8_readNumber 38 = .ok (.ldc 74, 2) := by decide +kernel
theorem dX8_readNumber_40 : decode cX8_readNumber 40 = .ok (.aload_n 0, 1) := by decide +kernel
theorem dX8_readNumber_41 : decode cX8_readNumber 41 = .ok (.getfield 56, 3) := by decide +kernel
theorem dX8_readNumber_44 : decode cX8_readNumber 44 = .ok (.bipush 10, 2) := by decide +kernel
theorem dX8_readNumber_46 : decode cX8_readNumber 46 = .ok (.imul, 1) := by decide +kernel
theorem dX8_readNumber_47 : decode cX8_readNumber 47 = .ok (.aload_n 0, 1) := by decide +kernel
theorem dX8_readNumber_48 : decode cX8_readNumber 48 = .ok (.getfield 9, 3) := by decide +kernel
theorem dX8_readNumber_51 : decode cX8_readNumber 51 = .ok (.aload_n 0, 1) := by decide +kernel
theorem dX8_readNumber_52 : decode cX8_readNumber 52 = .ok (.getfield 28, 3) := by decide +kernel
theorem dX8_readNumber_55 : decode cX8_readNumber 55 = .ok (.baload, 1) := by decide +kernel
theorem dX8_readNumber_56 : decode cX8_readNumber 56 = .ok (.iadd, 1) := by decide +kernel
theorem dX8_readNumber_57 : decode cX8_readNumber 57 = .ok (.bipush 48, 2) := by decide +kernel
theorem dX8_readNumber_59 : decode cX8_readNumber 59 = .ok (.isub, 1) := by decide +kernel
theorem dX8_readNumber_60 : decode cX8_readNumber 60 = .ok (.invokestatic 15, 3) := by decide +kernel
theorem dX8_readNumber_63 : decode cX8_readNumber 63 = .ok (.putfield 56, 3) := by decide +kernel
theorem dX8_readNumber_66 : decode cX8_readNumber 66 = .ok (.aload_n 0, 1) := by decide +kernel
theorem dX8_readNumber_67 : decode cX8_readNumber 67 = .ok (.dup, 1) := by decide +kernel
theorem dX8_readNumber_68 : decode cX8_readNumber 68 = .ok (.getfield 28, 3) := by decide +kernel
theorem dX8_readNumber_71 : decode cX8_readNumber 71 = .ok (.iconst 1, 1) := by decide +kernel
theorem dX8_readNumber_72 : decode cX8_readNumber 72 = .ok (.iadd, 1) := by decide +kernel
theorem dX8_readNumber_73 : decode cX8_readNumber 73 = .ok (.putfield 28, 3) := by decide +kernel
theorem dX8_readNumber_76 : decode cX8_readNumber 76 = .ok (.goto (-65), 3) := by decide +kernel
theorem dX8_readNumber_79 : decode cX8_readNumber 79 = .ok (.return_, 1) := by decide +kernel
theorem dX8_readSign_0 : decode cX8_readSign 0 = .ok (.aload_n 0, 1) := by decide +kernel
theorem dX8_readSign_1 : decode cX8_readSign 1 = .ok (.getfield 9, 3) := by decide +kernel
theorem dX8_readSign_4 : decode cX8_readSign 4 = .ok (.aload_n 0, 1) := by decide +kernel
theorem dX8_readSign_5 : decode cX8_readSign 5 = .ok (.getfield 28, 3) := by decide +kernel
theorem dX8_readSign_8 : decode cX8_readSign 8 = .ok (.baload, 1) := by decide +kernel
theorem dX8_readSign_9 : decode cX8_readSign 9 = .ok (.istore_n 1, 1) := by decide +kernel
theorem dX8_readSign_10 : decode cX8_readSign 10 = .ok (.aload_n 0, 1) := by decide +kernel
theorem dX8_readSign_11 : decode cX8_readSign 11 = .ok (.dup, 1) := by decide +kernel
theorem dX8_readSign_12 : decode cX8_readSign 12 = .ok (.getfield 28, 3) := by decide +kernel
theorem dX8_readSign_15 : decode cX8_readSign 15 = .ok (.iconst 1, 1) := by decide +kernel
theorem dX8_readSign_16 : decode cX8_readSign 16 = .ok (.iadd, 1) := by decide +kernel
theorem dX8_readSign_17 : decode cX8_readSign 17 = .ok (.putfield 28, 3) := by decide +kernel
theorem dX8_readSign_20 : decode cX8_readSign 20 = .ok (.aload_n 0, 1) := by decide +kernel
theorem dX8_readSign_21 : decode cX8_readSign 21 = .ok (.getfield 28, 3) := by decide +kernel
theorem dX8_readSign_24 : decode cX8_readSign 24 = .ok (.aload_n 0, 1) := by decide +kernel
theorem dX8_readSign_25 : decode cX8_readSign 25 = .ok (.getfield 24, 3) := by decide +kernel
theorem dX8_readSign_28 : decode cX8_readSign 28 = .ok (.if_icmp .ge 15, 3) := by decide +kernel
theorem dX8_readSign_31 : decode cX8_readSign 31 = .ok (.aload_n 0, 1) := by decide +kernel
theorem dX8_readSign_32 : decode cX8_readSign 32 = .ok (.getfield 9, 3) := by decide +kernel
theorem dX8_readSign_35 : decode cX8_readSign 35 = .ok (.aload_n 0, 1) := by decide +kernel
theorem dX8_readSign_36 : decode cX8_readSign 36 = .ok (.getfield 28, 3) := by decide +kernel
theorem dX8_readSign_39 : decode cX8_readSign 39 = .ok (.baload, 1) := by decide +kernel
theorem dX8_readSign_40 : decode cX8_readSign 40 = .ok (.goto 4, 3) := by decide +kernel
theorem dX8_readSign_43 : decode cX8_readSign 43 = .ok (.iconst 0, 1) := by decide +kernel
theorem dX8_readSign_44 : decode cX8_readSign 44 = .ok (.istore_n 2, 1) := by decide +kernel
theorem dX8_readSign_45 : decode cX8_readSign 45 = .ok (.aload_n 0, 1) := by decide +kernel
theorem dX8_readSign_46 : decode cX8_readSign 46 = .ok (.iload_n 1, 1) := by decide +kernel
theorem dX8_readSign_47 : decode cX8_readSign 47 = .ok (.iload_n 2, 1) := by decide +kernel
theorem dX8_readSign_48 : decode cX8_readSign 48 = .ok (.invokestatic 75, 3) := by decide +kernel
theorem dX8_readSign_51 : decode cX8_readSign 51 = .ok (.putfield 37, 3) := by decide +kernel
theorem dX8_readSign_54 : decode cX8_readSign 54 = .ok (.aload_n 0, 1) := by decide +kernel
theorem dX8_readSign_55 : decode cX8_readSign 55 = .ok (.getfield 37, 3) := by decide +kernel
theorem dX8_readSign_58 : decode cX8_readSign 58 = .ok (.bipush 39, 2) := by decide +kernel
theorem dX8_readSign_60 : decode cX8_readSign 60 = .ok (.if_icmp .ne 14, 3) := by decide +kernel
theorem dX8_readSign_63 : decode cX8_readSign 63 = .ok (.aload_n 0, 1) := by decide +kernel
theorem dX8_readSign_64 : decode cX8_readSign 64 = .ok (.iload_n 1, 1) := by decide +kernel
theorem dX8_readSign_65 : decode cX8_readSign 65 = .ok (.invokestatic 78, 3) := by decide +kernel
theorem dX8_readSign_68 : decode cX8_readSign 68 = .ok (.putfield 37, 3) := by decide +kernel
theorem dX8_readSign_71 : decode cX8_readSign 71 = .ok (.goto 13, 3) := by decide +kernel
theorem dX8_readSign_74 : decode cX8_readSign 74 = .ok (.aload_n 0, 1) := by decide +kernel
theorem dX8_readSign_75 : decode cX8_readSign 75 = .ok (.dup, 1) := by decide +kernel
theorem dX8_readSign_76 : decode cX8_readSign 76 = .ok (.getfield 28, 3) := by decide +kernel
theorem dX8_readSign_79 : decode cX8_readSign 79 = .ok (.iconst 1, 1) := by decide +kernel
theorem dX8_readSign_80 : decode cX8_readSign 80 = .ok (.iadd, 1) := by decide +kernel
theorem dX8_readSign_81 : decode cX8_readSign 81 = .ok (.putfield 28, 3) := by decide +kernel
theorem dX8_readSign_84 : decode cX8_readSign 84 = .ok (.return_, 1) := by decide +kernel
theorem dX8_doubleKind_0 : decode cX8_doubleKind 0 = .ok (.iload_n 0, 1) := by decide +kernel
theorem dX8_doubleKind_1 : decode cX8_doubleKind 1 = .ok (.bipush 60, 2) := by decide +kernel
theorem dX8_doubleKind_3 : decode cX8_doubleKind 3 = .ok (.if_icmp .ne 12, 3) := by decide +kernel
theorem dX8_doubleKind_6 : decode cX8_doubleKind 6 = .ok (.iload_n 1, 1) := by decide +kernel
theorem dX8_doubleKind_7 : decode cX8_doubleKind 7 = .ok (.bipush 61, 2) := by decide +kernel
theorem dX8_doubleKind_9 : decode cX8_doubleKind 9 = .ok (.if_icmp .ne 6, 3) := by decide +kernel
theorem dX8_doubleKind_12 : decode cX8_doubleKind 12 = .ok (.bipush 24, 2) := by decide +kernel
theorem dX8_doubleKind_14 : decode cX8_doubleKind 14 = .ok (.ireturn, 1) := by decide +kernel
theorem dX8_doubleKind_15 : decode cX8_doubleKind 15 = .ok (.iload_n 0, 1) := by decide +kernel
theorem dX8_doubleKind_16 : decode cX8_doubleKind 16 = .ok (.bipush 60, 2) := by decide +kernel
theorem dX8_doubleKind_18 : decode cX8_doubleKind 18 = .ok (.if_icmp .ne 12, 3) := by decide +kernel
theorem dX8_doubleKind_21 : decode cX8_doubleKind 21 = .ok (.iload_n 1, 1) := by decide +kernel
theorem dX8_doubleKind_22 : decode cX8_doubleKind 22 = .ok (.bipush 62, 2) := by decide +kernel
theorem dX8_doubleKind_24 : decode cX8_doubleKind 24 = .ok (.if_icmp .ne 6, 3) := by decide +kernel
theorem dX8_doubleKind_27 : decode cX8_doubleKind 27 = .ok (.bipush 26, 2) := by decide +kernel
theorem dX8_doubleKind_29 : decode cX8_doubleKind 29 = .ok (.ireturn, 1) := by decide +kernel
theorem dX8_doubleKind_30 : decode cX8_doubleKind 30 = .ok (.iload_n 0, 1) := by decide +kernel
theorem dX8_doubleKind_31 : decode cX8_doubleKind 31 = .ok (.bipush 62, 2) := by decide +kernel
theorem dX8_doubleKind_33 : decode cX8_doubleKind 33 = .ok (.if_icmp .ne 14, 3) := by decide +kernel
theorem dX8_doubleKind_36 : decode cX8_doubleKind 36 = .ok (.iload_n 1, 1) := by decide +kernel
theorem dX8_doubleKind_37 : decode cX8_doubleKind 37 = .ok (.bipush 61, 2) := by decide +kernel
theorem dX8_doubleKind_39 : decode cX8_doubleKind 39 = .ok (.if_icmp .ne 8, 3) := by decide +kernel
theorem dX8_doubleKind_42 : decode cX8_doubleKind 42 = .ok (.bipush 27, 2) := by decide +kernel
theorem dX8_doubleKind_44 : decode cX8_doubleKind 44 = .ok (.goto 5, 3) := by decide +kernel
theorem dX8_doubleKind_47 : decode cX8_doubleKind 47 = .ok (.bipush 39, 2) := by decide +kernel
theorem dX8_doubleKind_49 : decode cX8_doubleKind 49 = .ok (.ireturn, 1) := by decide +kernel
theorem dX8_singleKind_0 : decode cX8_singleKind 0 = .ok (.iload_n 0, 1) := by decide +kernel
theorem dX8_singleKind_1 : decode cX8_singleKind 1 = .ok (.tableswitch 137 40 62 #[128, 131, 122, 116, 137, 119, 137, 125, 137, 137, 137, 137, 137, 137, 137, 137, 137, 137, 137, 134, 107, 110, 113], 107) := by decide +kernel
theorem dX8_singleKind_108 : decode cX8_singleKind 108 = .ok (.bipush 23, 2) := by decide +kernel
theorem dX8_singleKind_110 : decode cX8_singleKind 110 = .ok (.ireturn, 1) := by decide +kernel
theorem dX8_singleKind_111 : decode cX8_singleKind 111 = .ok (.bipush 25, 2) := by decide +kernel
theorem dX8_singleKind_113 : decode cX8_singleKind 113 = .ok (.ireturn, 1) := by decide +kernel
theorem dX8_singleKind_114 : decode cX8_singleKind 114 = .ok (.bipush 28, 2) := by decide +kernel
theorem dX8_singleKind_116 : decode cX8_singleKind 116 = .ok (.ireturn, 1) := by decide +kernel
theorem dX8_singleKind_117 : decode cX8_singleKind 117 = .ok (.bipush 29, 2) := by decide +kernel
theorem dX8_singleKind_119 : decode cX8_singleKind 119 = .ok (.ireturn, 1) := by decide +kernel
theorem dX8_singleKind_120 : decode cX8_singleKind 120 = .ok (.bipush 30, 2) := by decide +kernel
theorem dX8_singleKind_122 : decode cX8_singleKind 122 = .ok (.ireturn, 1) := by decide +kernel
theorem dX8_singleKind_123 : decode cX8_singleKind 123 = .ok (.bipush 31, 2) := by decide +kernel
theorem dX8_singleKind_125 : decode cX8_singleKind 125 = .ok (.ireturn, 1) := by decide +kernel
theorem dX8_singleKind_126 : decode cX8_singleKind 126 = .ok (.bipush 32, 2) := by decide +kernel
theorem dX8_singleKind_128 : decode cX8_singleKind 128 = .ok (.ireturn, 1) := by decide +kernel
theorem dX8_singleKind_129 : decode cX8_singleKind 129 = .ok (.bipush 33, 2) := by decide +kernel
theorem dX8_singleKind_131 : decode cX8_singleKind 131 = .ok (.ireturn, 1) := by decide +kernel
theorem dX8_singleKind_132 : decode cX8_singleKind 132 = .ok (.bipush 34, 2) := by decide +kernel
theorem dX8_singleKind_134 : decode cX8_singleKind 134 = .ok (.ireturn, 1) := by decide +kernel
theorem dX8_singleKind_135 : decode cX8_singleKind 135 = .ok (.bipush 35, 2) := by decide +kernel
theorem dX8_singleKind_137 : decode cX8_singleKind 137 = .ok (.ireturn, 1) := by decide +kernel
theorem dX8_singleKind_138 : decode cX8_singleKind 138 = .ok (.bipush 39, 2) := by decide +kernel
theorem dX8_singleKind_140 : decode cX8_singleKind 140 = .ok (.ireturn, 1) := by decide +kernel
theorem dX9_init_0 : decode cX9_init 0 = .ok (.aload_n 0, 1) := by decide +kernel
theorem dX9_init_1 : decode cX9_init 1 = .ok (.invokespecial 3, 3) := by decide +kernel
theorem dX9_init_4 : decode cX9_init 4 = .ok (.aload_n 0, 1) := by decide +kernel
theorem dX9_init_5 : decode cX9_init 5 = .ok (.bipush 12, 2) := by decide +kernel
theorem dX9_init_7 : decode cX9_init 7 = .ok (.newarray .int, 2) := by decide +kernel
theorem dX9_init_9 : decode cX9_init 9 = .ok (.putfield 9, 3) := by decide +kernel
theorem dX9_init_12 : decode cX9_init 12 = .ok (.aload_n 0, 1) := by decide +kernel
theorem dX9_init_13 : decode cX9_init 13 = .ok (.bipush 12, 2) := by decide +kernel
theorem dX9_init_15 : decode cX9_init 15 = .ok (.newarray .int, 2) := by decide +kernel
theorem dX9_init_17 : decode cX9_init 17 = .ok (.putfield 15, 3) := by decide +kernel
theorem dX9_init_20 : decode cX9_init 20 = .ok (.return_, 1) := by decide +kernel
theorem dX9_weigh_0 : decode cX9_weigh 0 = .ok (.iconst 0, 1) := by decide +kernel
theorem dX9_weigh_1 : decode cX9_weigh 1 = .ok (.istore_n 2, 1) := by decide +kernel
theorem dX9_weigh_2 : decode cX9_weigh 2 = .ok (.iload_n 2, 1) := by decide +kernel
theorem dX9_weigh_3 : decode cX9_weigh 3 = .ok (.aload_n 1, 1) := by decide +kernel
theorem dX9_weigh_4 : decode cX9_weigh 4 = .ok (.getfield 18, 3) := by decide +kernel
theorem dX9_weigh_7 : decode cX9_weigh 7 = .ok (.if_icmp .ge 52, 3) := by decide +kernel
theorem dX9_weigh_10 : decode cX9_weigh 10 = .ok (.iload_n 2, 1) := by decide +kernel
theorem dX9_weigh_11 : decode cX9_weigh 11 = .ok (.bipush 12, 2) := by decide +kernel
theorem dX9_weigh_13 : decode cX9_weigh 13 = .ok (.if_icmp .ge 46, 3) := by decide +kernel
theorem dX9_weigh_16 : decode cX9_weigh 16 = .ok (.aload_n 0, 1) := by decide +kernel
theorem dX9_weigh_17 : decode cX9_weigh 17 = .ok (.getfield 9, 3) := by decide +kernel
theorem dX9_weigh_20 : decode cX9_weigh 20 = .ok (.iload_n 2, 1) := by decide +kernel
theorem dX9_weigh_21 : decode cX9_weigh 21 = .ok (.aload_n 1, 1) := by decide +kernel
theorem dX9_weigh_22 : decode cX9_weigh 22 = .ok (.iload_n 2, 1) := by decide +kernel
theorem dX9_weigh_23 : decode cX9_weigh 23 = .ok (.iconst 0, 1) := by decide +kernel
theorem dX9_weigh_24 : decode cX9_weigh 24 = .ok (.invokevirtual 24, 3) := by decide +kernel
theorem dX9_weigh_27 : decode cX9_weigh 27 = .ok (.iastore, 1) := by decide +kernel
theorem dX9_weigh_28 : decode cX9_weigh 28 = .ok (.aload_n 0, 1) := by decide +kernel
theorem dX9_weigh_29 : decode cX9_weigh 29 = .ok (.getfield 15, 3) := by decide +kernel
theorem dX9_weigh_32 : decode cX9_weigh 32 = .ok (.iload_n 2, 1) := by decide +kernel
theorem dX9_weigh_33 : decode cX9_weigh 33 = .ok (.aload_n 1, 1) := by decide +kernel
theorem dX9_weigh_34 : decode cX9_weigh 34 = .ok (.iload_n 2, 1) := by decide +kernel
theorem dX9_weigh_35 : decode cX9_weigh 35 = .ok (.invokevirtual 28, 3) := by decide +kernel
theorem dX9_weigh_38 : decode cX9_weigh 38 = .ok (.iconst 1, 1) := by decide +kernel
theorem dX9_weigh_39 : decode cX9_weigh 39 = .ok (.if_icmp .ne 12, 3) := by decide +kernel
theorem dX9_weigh_42 : decode cX9_weigh 42 = .ok (.aload_n 1, 1) := by decide +kernel
theorem dX9_weigh_43 : decode cX9_weigh 43 = .ok (.iload_n 2, 1) := by decide +kernel
theorem dX9_weigh_44 : decode cX9_weigh 44 = .ok (.iconst 1, 1) := by decide +kernel
theorem dX9_weigh_45 : decode cX9_weigh 45 = .ok (.invokevirtual 24, 3) := by decide +kernel
theorem dX9_weigh_48 : decode cX9_weigh 48 = .ok (.goto 4, 3) := by decide +kernel
theorem dX9_weigh_51 : decode cX9_weigh 51 = .ok (.iconst 0, 1) := by decide +kernel
theorem dX9_weigh_52 : decode cX9_weigh 52 = .ok (.iastore, 1) := by decide +kernel
theorem dX9_weigh_53 : decode cX9_weigh 53 = .ok (.iinc 2 1, 3) := by decide +kernel
theorem dX9_weigh_56 : decode cX9_weigh 56 = .ok (.goto (-54), 3) := by decide +kernel
theorem dX9_weigh_59 : decode cX9_weigh 59 = .ok (.return_, 1) := by decide +kernel
theorem dX9_untwisted_0 : decode cX9_untwisted 0 = .ok (.aload_n 1, 1) := by decide +kernel
theorem dX9_untwisted_1 : decode cX9_untwisted 1 = .ok (.getfield 32, 3) := by decide +kernel
theorem dX9_untwisted_4 : decode cX9_untwisted 4 = .ok (.istore_n 2, 1) := by decide +kernel
theorem dX9_untwisted_5 : decode cX9_untwisted 5 = .ok (.iconst 0, 1) := by decide +kernel
theorem dX9_untwisted_6 : decode cX9_untwisted 6 = .ok (.istore_n 3, 1) := by decide +kernel
theorem dX9_untwisted_7 : decode cX9_untwisted 7 = .ok (.iload_n 3, 1) := by decide +kernel
theorem dX9_untwisted_8 : decode cX9_untwisted 8 = .ok (.aload_n 1, 1) := by decide +kernel
theorem dX9_untwisted_9 : decode cX9_untwisted 9 = .ok (.getfield 18, 3) := by decide +kernel
theorem dX9_untwisted_12 : decode cX9_untwisted 12 = .ok (.if_icmp .ge 24, 3) := by decide +kernel
theorem dX9_untwisted_15 : decode cX9_untwisted 15 = .ok (.iload_n 3, 1) := by decide +kernel
theorem dX9_untwisted_16 : decode cX9_untwisted 16 = .ok (.bipush 12, 2) := by decide +kernel
theorem dX9_untwisted_18 : decode cX9_untwisted 18 = .ok (.if_icmp .ge 18, 3) := by decide +kernel
theorem dX9_untwisted_21 : decode cX9_untwisted 21 = .ok (.iload_n 2, 1) := by decide +kernel
theorem dX9_untwisted_22 : decode cX9_untwisted 22 = .ok (.aload_n 0, 1) := by decide +kernel
theorem dX9_untwisted_23 : decode cX9_untwisted 23 = .ok (.getfield 9, 3) := by decide +kernel
theorem dX9_untwisted_26 : decode cX9_untwisted 26 = .ok (.iload_n 3, 1) := by decide +kernel
theorem dX9_untwisted_27 : decode cX9_untwisted 27 = .ok (.iaload, 1) := by decide +kernel
theorem dX9_untwisted_28 : decode cX9_untwisted 28 = .ok (.iadd, 1) := by decide +kernel
theorem dX9_untwisted_29 : decode cX9_untwisted 29 = .ok (.istore_n 2, 1) := by decide +kernel
theorem dX9_untwisted_30 : decode cX9_untwisted 30 = .ok (.iinc 3 1, 3) := by decide +kernel
theorem dX9_untwisted_33 : decode cX9_untwisted 33 = .ok (.goto (-26), 3) := by decide +kernel
theorem dX9_untwisted_36 : decode cX9_untwisted 36 = .ok (.iload_n 2, 1) := by decide +kernel
theorem dX9_untwisted_37 : decode cX9_untwisted 37 = .ok (.ireturn, 1) := by decide +kernel
theorem dX9_without_0 : decode cX9_without 0 = .ok (.aload_n 1, 1) := by decide +kernel
theorem dX9_without_1 : decode cX9_without 1 = .ok (.getfield 32, 3) := by decide +kernel
theorem dX9_without_4 : decode cX9_without 4 = .ok (.istore_n 3, 1) := by decide +kernel
theorem dX9_without_5 : decode cX9_without 5 = .ok (.iconst 0, 1) := by decide +kernel
theorem dX9_without_6 : decode cX9_without 6 = .ok (.istore 4, 2) := by decide +kernel
theorem dX9_without_8 : decode cX9_without 8 = .ok (.iload 4, 2) := by decide +kernel
theorem dX9_without_10 : decode cX9_without 10 = .ok (.aload_n 1, 1) := by decide +kernel
theorem dX9_without_11 : decode cX9_without 11 = .ok (.getfield 18, 3) := by decide +kernel
theorem dX9_without_14 : decode cX9_without 14 = .ok (.if_icmp .ge 95, 3) := by decide +kernel
theorem dX9_without_17 : decode cX9_without 17 = .ok (.iload 4, 2) := by decide +kernel
theorem dX9_without_19 : decode cX9_without 19 = .ok (.bipush 12, 2) := by decide +kernel
theorem dX9_without_21 : decode cX9_without 21 = .ok (.if_icmp .ge 88, 3) := by decide +kernel
theorem dX9_without_24 : decode cX9_without 24 = .ok (.aload_n 1, 1) := by decide +kernel
theorem dX9_without_25 : decode cX9_without 25 = .ok (.iload 4, 2) := by decide +kernel
theorem dX9_without_27 : decode cX9_without 27 = .ok (.iload_n 2, 1) := by decide +kernel
theorem dX9_without_28 : decode cX9_without 28 = .ok (.invokestatic 35, 3) := by decide +kernel
theorem dX9_without_31 : decode cX9_without 31 = .ok (.ifCond .ne 6, 3) := by decide +kernel
theorem dX9_without_34 : decode cX9_without 34 = .ok (.goto 69, 3) := by decide +kernel
theorem dX9_without_37 : decode cX9_without 37 = .ok (.aload_n 1, 1) := by decide +kernel
theorem dX9_without_38 : decode cX9_without 38 = .ok (.getfield 39, 3) := by decide +kernel
theorem dX9_without_41 : decode cX9_without 41 = .ok (.iload 4, 2) := by decide +kernel
theorem dX9_without_43 : decode cX9_without 43 = .ok (.iaload, 1) := by decide +kernel
theorem dX9_without_44 : decode cX9_without 44 = .ok (.istore 5, 2) := by decide +kernel
theorem dX9_without_46 : decode cX9_without 46 = .ok (.aload_n 1, 1) := by decide +kernel
theorem dX9_without_47 : decode cX9_without 47 = .ok (.iload 5, 2) := by decide +kernel
theorem dX9_without_49 : decode cX9_without 49 = .ok (.iload_n 2, 1) := by decide +kernel
theorem dX9_without_50 : decode cX9_without 50 = .ok (.invokestatic 35, 3) := by decide +kernel
theorem dX9_without_53 : decode cX9_without 53 = .ok (.ifCond .ne 16, 3) := by decide +kernel
theorem dX9_without_56 : decode cX9_without 56 = .ok (.iload_n 3, 1) := by decide +kernel
theorem dX9_without_57 : decode cX9_without 57 = .ok (.aload_n 0, 1) := by decide +kernel
theorem dX9_without_58 : decode cX9_without 58 = .ok (.getfield 9, 3) := by decide +kernel
theorem dX9_without_61 : decode cX9_without 61 = .ok (.iload 4, 2) := by decide +kernel
theorem dX9_without_63 : decode cX9_without 63 = .ok (.iaload, 1) := by decide +kernel
theorem dX9_without_64 : decode cX9_without 64 = .ok (.iadd, 1) := by decide +kernel
theorem dX9_without_65 : decode cX9_without 65 = .ok (.istore_n 3, 1) := by decide +kernel
theorem dX9_without_66 : decode cX9_without 66 = .ok (.goto 37, 3) := by decide +kernel
theorem dX9_without_69 : decode cX9_without 69 = .ok (.iload 4, 2) := by decide +kernel
theorem dX9_without_71 : decode cX9_without 71 = .ok (.iload 5, 2) := by decide +kernel
theorem dX9_without_73 : decode cX9_without 73 = .ok (.if_icmp .ge 30, 3) := by decide +kernel
theorem dX9_without_76 : decode cX9_without 76 = .ok (.aload_n 0, 1) := by decide +kernel
theorem dX9_without_77 : decode cX9_without 77 = .ok (.getfield 15, 3) := by decide +kernel
theorem dX9_without_80 : decode cX9_without 80 = .ok (.iload 4, 2) := by decide +kernel
theorem dX9_without_82 : decode cX9_without 82 = .ok (.iaload, 1) := by decide +kernel
theorem dX9_without_83 : decode cX9_without 83 = .ok (.aload_n 0, 1) := by decide +kernel
theorem dX9_without_84 : decode cX9_without 84 = .ok (.getfield 15, 3) := by decide +kernel
theorem dX9_without_87 : decode cX9_without 87 = .ok (.iload 5, 2) := by decide +kernel
theorem dX9_without_89 : decode cX9_without 89 = .ok (.iaload, 1) := by decide +kernel
theorem dX9_without_90 : decode cX9_without 90 = .ok (.iadd, 1) := by decide +kernel
theorem dX9_without_91 : decode cX9_without 91 = .ok (.istore 6, 2) := by decide +kernel
theorem dX9_without_93 : decode cX9_without 93 = .ok (.iload_n 3, 1) := by decide +kernel
theorem dX9_without_94 : decode cX9_without 94 = .ok (.iload 6, 2) := by decide +kernel
theorem dX9_without_96 : decode cX9_without 96 = .ok (.iload 6, 2) := by decide +kernel
theorem dX9_without_98 : decode cX9_without 98 = .ok (.iconst 2, 1) := by decide +kernel
theorem dX9_without_99 : decode cX9_without 99 = .ok (.idiv, 1) := by decide +kernel
theorem dX9_without_100 : decode cX9_without 100 = .ok (.iadd, 1) := by decide +kernel
theorem dX9_without_101 : decode cX9_without 101 = .ok (.iadd, 1) := by decide +kernel
theorem dX9_without_102 : decode cX9_without 102 = .ok (.istore_n 3, 1) := by decide +kernel
theorem dX9_without_103 : decode cX9_without 103 = .ok (.iinc 4 1, 3) := by decide +kernel
theorem dX9_without_106 : decode cX9_without 106 = .ok (.goto (-98), 3) := by decide +kernel
theorem dX9_without_109 : decode cX9_without 109 = .ok (.iload_n 3, 1) := by decide +kernel
theorem dX9_without_110 : decode cX9_without 110 = .ok (.ireturn, 1) := by decide +kernel
theorem dX9_stays_0 : decode cX9_stays 0 = .ok (.aload_n 0, 1) := by decide +kernel
theorem dX9_stays_1 : decode cX9_stays 1 = .ok (.iload_n 1, 1) := by decide +kernel
theorem dX9_stays_2 : decode cX9_stays 2 = .ok (.invokevirtual 42, 3) := by decide +kernel
theorem dX9_stays_5 : decode cX9_stays 5 = .ok (.ifCond .eq 15, 3) := by decide +kernel
theorem dX9_stays_8 : decode cX9_stays 8 = .ok (.iload_n 2, 1) := by decide +kernel
theorem dX9_stays_9 : decode cX9_stays 9 = .ok (.iload_n 1, 1) := by decide +kernel
theorem dX9_stays_10 : decode cX9_stays 10 = .ok (.ishr, 1) := by decide +kernel
theorem dX9_stays_11 : decode cX9_stays 11 = .ok (.iconst 1, 1) := by decide +kernel
theorem dX9_stays_12 : decode cX9_stays 12 = .ok (.iand, 1) := by decide +kernel
theorem dX9_stays_13 : decode cX9_stays 13 = .ok (.ifCond .ne 7, 3) := by decide +kernel
theorem dX9_stays_16 : decode cX9_stays 16 = .ok (.iconst 1, 1) := by decide +kernel
theorem dX9_stays_17 : decode cX9_stays 17 = .ok (.goto 4, 3) := by decide +kernel
theorem dX9_stays_20 : decode cX9_stays 20 = .ok (.iconst 0, 1) := by decide +kernel
theorem dX9_stays_21 : decode cX9_stays 21 = .ok (.ireturn, 1) := by decide +kernel
theorem dJ6_bitCount_0f7a4_0 : decode cJ6_bitCount_0f7a4 0 = .ok (.iload_n 0, 1) := by decide +kernel
theorem dJ6_bitCount_0f7a4_1 : decode cJ6_bitCount_0f7a4 1 = .ok (.iload_n 0, 1) := by decide +kernel
theorem dJ6_bitCount_0f7a4_2 : decode cJ6_bitCount_0f7a4 2 = .ok (.iconst 1, 1) := by decide +kernel
theorem dJ6_bitCount_0f7a4_3 : decode cJ6_bitCount_0f7a4 3 = .ok (.iushr, 1) := by decide +kernel
theorem dJ6_bitCount_0f7a4_4 : decode cJ6_bitCount_0f7a4 4 = .ok (.ldc_w 265, 3) := by decide +kernel
theorem dJ6_bitCount_0f7a4_7 : decode cJ6_bitCount_0f7a4 7 = .ok (.iand, 1) := by decide +kernel
theorem dJ6_bitCount_0f7a4_8 : decode cJ6_bitCount_0f7a4 8 = .ok (.isub, 1) := by decide +kernel
theorem dJ6_bitCount_0f7a4_9 : decode cJ6_bitCount_0f7a4 9 = .ok (.istore_n 0, 1) := by decide +kernel
theorem dJ6_bitCount_0f7a4_10 : decode cJ6_bitCount_0f7a4 10 = .ok (.iload_n 0, 1) := by decide +kernel
theorem dJ6_bitCount_0f7a4_11 : decode cJ6_bitCount_0f7a4 11 = .ok (.ldc_w 266, 3) := by decide +kernel
theorem dJ6_bitCount_0f7a4_14 : decode cJ6_bitCount_0f7a4 14 = .ok (.iand, 1) := by decide +kernel
theorem dJ6_bitCount_0f7a4_15 : decode cJ6_bitCount_0f7a4 15 = .ok (.iload_n 0, 1) := by decide +kernel
theorem dJ6_bitCount_0f7a4_16 : decode cJ6_bitCount_0f7a4 16 = .ok (.iconst 2, 1) := by decide +kernel
theorem dJ6_bitCount_0f7a4_17 : decode cJ6_bitCount_0f7a4 17 = .ok (.iushr, 1) := by decide +kernel
theorem dJ6_bitCount_0f7a4_18 : decode cJ6_bitCount_0f7a4 18 = .ok (.ldc_w 266, 3) := by decide +kernel
theorem dJ6_bitCount_0f7a4_21 : decode cJ6_bitCount_0f7a4 21 = .ok (.iand, 1) := by decide +kernel
theorem dJ6_bitCount_0f7a4_22 : decode cJ6_bitCount_0f7a4 22 = .ok (.iadd, 1) := by decide +kernel
theorem dJ6_bitCount_0f7a4_23 : decode cJ6_bitCount_0f7a4 23 = .ok (.istore_n 0, 1) := by decide +kernel
theorem dJ6_bitCount_0f7a4_24 : decode cJ6_bitCount_0f7a4 24 = .ok (.iload_n 0, 1) := by decide +kernel
theorem dJ6_bitCount_0f7a4_25 : decode cJ6_bitCount_0f7a4 25 = .ok (.iload_n 0, 1) := by decide +kernel
theorem dJ6_bitCount_0f7a4_26 : decode cJ6_bitCount_0f7a4 26 = .ok (.iconst 4, 1) := by decide +kernel
theorem dJ6_bitCount_0f7a4_27 : decode cJ6_bitCount_0f7a4 27 = .ok (.iushr, 1) := by decide +kernel
theorem dJ6_bitCount_0f7a4_28 : decode cJ6_bitCount_0f7a4 28 = .ok (.iadd, 1) := by decide +kernel
theorem dJ6_bitCount_0f7a4_29 : decode cJ6_bitCount_0f7a4 29 = .ok (.ldc_w 267, 3) := by decide +kernel
theorem dJ6_bitCount_0f7a4_32 : decode cJ6_bitCount_0f7a4 32 = .ok (.iand, 1) := by decide +kernel
theorem dJ6_bitCount_0f7a4_33 : decode cJ6_bitCount_0f7a4 33 = .ok (.istore_n 0, 1) := by decide +kernel
theorem dJ6_bitCount_0f7a4_34 : decode cJ6_bitCount_0f7a4 34 = .ok (.iload_n 0, 1) := by decide +kernel
theorem dJ6_bitCount_0f7a4_35 : decode cJ6_bitCount_0f7a4 35 = .ok (.iload_n 0, 1) := by decide +kernel
theorem dJ6_bitCount_0f7a4_36 : decode cJ6_bitCount_0f7a4 36 = .ok (.bipush 8, 2) := by decide +kernel
theorem dJ6_bitCount_0f7a4_38 : decode cJ6_bitCount_0f7a4 38 = .ok (.iushr, 1) := by decide +kernel
theorem dJ6_bitCount_0f7a4_39 : decode cJ6_bitCount_0f7a4 39 = .ok (.iadd, 1) := by decide +kernel
theorem dJ6_bitCount_0f7a4_40 : decode cJ6_bitCount_0f7a4 40 = .ok (.istore_n 0, 1) := by decide +kernel
theorem dJ6_bitCount_0f7a4_41 : decode cJ6_bitCount_0f7a4 41 = .ok (.iload_n 0, 1) := by decide +kernel
theorem dJ6_bitCount_0f7a4_42 : decode cJ6_bitCount_0f7a4 42 = .ok (.iload_n 0, 1) := by decide +kernel
theorem dJ6_bitCount_0f7a4_43 : decode cJ6_bitCount_0f7a4 43 = .ok (.bipush 16, 2) := by decide +kernel
theorem dJ6_bitCount_0f7a4_45 : decode cJ6_bitCount_0f7a4 45 = .ok (.iushr, 1) := by decide +kernel
theorem dJ6_bitCount_0f7a4_46 : decode cJ6_bitCount_0f7a4 46 = .ok (.iadd, 1) := by decide +kernel
theorem dJ6_bitCount_0f7a4_47 : decode cJ6_bitCount_0f7a4 47 = .ok (.istore_n 0, 1) := by decide +kernel
theorem dJ6_bitCount_0f7a4_48 : decode cJ6_bitCount_0f7a4 48 = .ok (.iload_n 0, 1) := by decide +kernel
theorem dJ6_bitCount_0f7a4_49 : decode cJ6_bitCount_0f7a4 49 = .ok (.bipush 63, 2) := by decide +kernel
theorem dJ6_bitCount_0f7a4_51 : decode cJ6_bitCount_0f7a4 51 = .ok (.iand, 1) := by decide +kernel
theorem dJ6_bitCount_0f7a4_52 : decode cJ6_bitCount_0f7a4 52 = .ok (.ireturn, 1) := by decide +kernel
