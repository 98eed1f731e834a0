theorem dX11_order_129 : decode cX11_order 129 = .ok (.ishl, 1) := by decide +kernel
theorem dX11_order_130 : decode cX11_order 130 = .ok (.ior, 1) := by decide +kernel
theorem dX11_order_131 : decode cX11_order 131 = .ok (.istore 4, 2) := by decide +kernel
theorem dX11_order_133 : decode cX11_order 133 = .ok (.iload 5, 2) := by decide +kernel
theorem dX11_order_135 : decode cX11_order 135 = .ok (.iload_n 3, 1) := by decide +kernel
theorem dX11_order_136 : decode cX11_order 136 = .ok (.if_icmp .ne 6, 3) := by decide +kernel
theorem dX11_order_139 : decode cX11_order 139 = .ok (.iload 6, 2) := by decide +kernel
theorem dX11_order_141 : decode cX11_order 141 = .ok (.ireturn, 1) := by decide +kernel
theorem dX11_order_142 : decode cX11_order 142 = .ok (.iinc 5 1, 3) := by decide +kernel
theorem dX11_order_145 : decode cX11_order 145 = .ok (.goto (-91), 3) := by decide +kernel
theorem dX11_order_148 : decode cX11_order 148 = .ok (.bipush (-2), 2) := by decide +kernel
theorem dX11_order_150 : decode cX11_order 150 = .ok (.ireturn, 1) := by decide +kernel
theorem dX11_manyOf_0 : decode cX11_manyOf 0 = .ok (.iconst 0, 1) := by decide +kernel
theorem dX11_manyOf_1 : decode cX11_manyOf 1 = .ok (.istore_n 1, 1) := by decide +kernel
theorem dX11_manyOf_2 : decode cX11_manyOf 2 = .ok (.iconst 0, 1) := by decide +kernel
theorem dX11_manyOf_3 : decode cX11_manyOf 3 = .ok (.istore_n 2, 1) := by decide +kernel
theorem dX11_manyOf_4 : decode cX11_manyOf 4 = .ok (.iload_n 2, 1) := by decide +kernel
theorem dX11_manyOf_5 : decode cX11_manyOf 5 = .ok (.bipush 12, 2) := by decide +kernel
theorem dX11_manyOf_7 : decode cX11_manyOf 7 = .ok (.if_icmp .ge 17, 3) := by decide +kernel
theorem dX11_manyOf_10 : decode cX11_manyOf 10 = .ok (.iload_n 1, 1) := by decide +kernel
theorem dX11_manyOf_11 : decode cX11_manyOf 11 = .ok (.iload_n 0, 1) := by decide +kernel
theorem dX11_manyOf_12 : decode cX11_manyOf 12 = .ok (.iload_n 2, 1) := by decide +kernel
theorem dX11_manyOf_13 : decode cX11_manyOf 13 = .ok (.ishr, 1) := by decide +kernel
theorem dX11_manyOf_14 : decode cX11_manyOf 14 = .ok (.iconst 1, 1) := by decide +kernel
theorem dX11_manyOf_15 : decode cX11_manyOf 15 = .ok (.iand, 1) := by decide +kernel
theorem dX11_manyOf_16 : decode cX11_manyOf 16 = .ok (.iadd, 1) := by decide +kernel
theorem dX11_manyOf_17 : decode cX11_manyOf 17 = .ok (.istore_n 1, 1) := by decide +kernel
theorem dX11_manyOf_18 : decode cX11_manyOf 18 = .ok (.iinc 2 1, 3) := by decide +kernel
theorem dX11_manyOf_21 : decode cX11_manyOf 21 = .ok (.goto (-17), 3) := by decide +kernel
theorem dX11_manyOf_24 : decode cX11_manyOf 24 = .ok (.iload_n 1, 1) := by decide +kernel
theorem dX11_manyOf_25 : decode cX11_manyOf 25 = .ok (.ireturn, 1) := by decide +kernel
theorem dX11_drop_0 : decode cX11_drop 0 = .ok (.aload_n 0, 1) := by decide +kernel
theorem dX11_drop_1 : decode cX11_drop 1 = .ok (.iconst 0, 1) := by decide +kernel
theorem dX11_drop_2 : decode cX11_drop 2 = .ok (.putfield 193, 3) := by decide +kernel
theorem dX11_drop_5 : decode cX11_drop 5 = .ok (.iload_n 1, 1) := by decide +kernel
theorem dX11_drop_6 : decode cX11_drop 6 = .ok (.iconst 1, 1) := by decide +kernel
theorem dX11_drop_7 : decode cX11_drop 7 = .ok (.sipush 9999, 3) := by decide +kernel
theorem dX11_drop_10 : decode cX11_drop 10 = .ok (.invokestatic 238, 3) := by decide +kernel
theorem dX11_drop_13 : decode cX11_drop 13 = .ok (.ifCond .ne 5, 3) := by decide +kernel
theorem dX11_drop_16 : decode cX11_drop 16 = .ok (.iconst (-1), 1) := by decide +kernel
theorem dX11_drop_17 : decode cX11_drop 17 = .ok (.ireturn, 1) := by decide +kernel
theorem dX11_drop_18 : decode cX11_drop 18 = .ok (.bipush (-2), 2) := by decide +kernel
theorem dX11_drop_20 : decode cX11_drop 20 = .ok (.istore_n 2, 1) := by decide +kernel
theorem dX11_drop_21 : decode cX11_drop 21 = .ok (.iconst 0, 1) := by decide +kernel
theorem dX11_drop_22 : decode cX11_drop 22 = .ok (.istore_n 3, 1) := by decide +kernel
theorem dX11_drop_23 : decode cX11_drop 23 = .ok (.iload_n 3, 1) := by decide +kernel
theorem dX11_drop_24 : decode cX11_drop 24 = .ok (.iconst 1, 1) := by decide +kernel
theorem dX11_drop_25 : decode cX11_drop 25 = .ok (.aload_n 0, 1) := by decide +kernel
theorem dX11_drop_26 : decode cX11_drop 26 = .ok (.getfield 106, 3) := by decide +kernel
theorem dX11_drop_29 : decode cX11_drop 29 = .ok (.iconst 0, 1) := by decide +kernel
theorem dX11_drop_30 : decode cX11_drop 30 = .ok (.iaload, 1) := by decide +kernel
theorem dX11_drop_31 : decode cX11_drop 31 = .ok (.ishl, 1) := by decide +kernel
theorem dX11_drop_32 : decode cX11_drop 32 = .ok (.if_icmp .ge 90, 3) := by decide +kernel
theorem dX11_drop_35 : decode cX11_drop 35 = .ok (.aload_n 0, 1) := by decide +kernel
theorem dX11_drop_36 : decode cX11_drop 36 = .ok (.iload_n 3, 1) := by decide +kernel
theorem dX11_drop_37 : decode cX11_drop 37 = .ok (.invokevirtual 494, 3) := by decide +kernel
theorem dX11_drop_40 : decode cX11_drop 40 = .ok (.ifCond .eq 76, 3) := by decide +kernel
theorem dX11_drop_43 : decode cX11_drop 43 = .ok (.iload_n 2, 1) := by decide +kernel
theorem dX11_drop_44 : decode cX11_drop 44 = .ok (.ifCond .lt 17, 3) := by decide +kernel
theorem dX11_drop_47 : decode cX11_drop 47 = .ok (.iload_n 3, 1) := by decide +kernel
theorem dX11_drop_48 : decode cX11_drop 48 = .ok (.invokestatic 500, 3) := by decide +kernel
theorem dX11_drop_51 : decode cX11_drop 51 = .ok (.iload_n 2, 1) := by decide +kernel
theorem dX11_drop_52 : decode cX11_drop 52 = .ok (.invokestatic 500, 3) := by decide +kernel
theorem dX11_drop_55 : decode cX11_drop 55 = .ok (.if_icmp .lt 6, 3) := by decide +kernel
theorem dX11_drop_58 : decode cX11_drop 58 = .ok (.goto 58, 3) := by decide +kernel
theorem dX11_drop_61 : decode cX11_drop 61 = .ok (.aload_n 0, 1) := by decide +kernel
theorem dX11_drop_62 : decode cX11_drop 62 = .ok (.invokevirtual 482, 3) := by decide +kernel
theorem dX11_drop_65 : decode cX11_drop 65 = .ok (.iconst 0, 1) := by decide +kernel
theorem dX11_drop_66 : decode cX11_drop 66 = .ok (.istore 4, 2) := by decide +kernel
theorem dX11_drop_68 : decode cX11_drop 68 = .ok (.iload 4, 2) := by decide +kernel
theorem dX11_drop_70 : decode cX11_drop 70 = .ok (.aload_n 0, 1) := by decide +kernel
theorem dX11_drop_71 : decode cX11_drop 71 = .ok (.getfield 106, 3) := by decide +kernel
theorem dX11_drop_74 : decode cX11_drop 74 = .ok (.iconst 1, 1) := by decide +kernel
theorem dX11_drop_75 : decode cX11_drop 75 = .ok (.iaload, 1) := by decide +kernel
theorem dX11_drop_76 : decode cX11_drop 76 = .ok (.if_icmp .ge 29, 3) := by decide +kernel
theorem dX11_drop_79 : decode cX11_drop 79 = .ok (.iload_n 3, 1) := by decide +kernel
theorem dX11_drop_80 : decode cX11_drop 80 = .ok (.iload 4, 2) := by decide +kernel
theorem dX11_drop_82 : decode cX11_drop 82 = .ok (.invokestatic 485, 3) := by decide +kernel
theorem dX11_drop_85 : decode cX11_drop 85 = .ok (.ifCond .eq 14, 3) := by decide +kernel
theorem dX11_drop_88 : decode cX11_drop 88 = .ok (.aload_n 0, 1) := by decide +kernel
theorem dX11_drop_89 : decode cX11_drop 89 = .ok (.getfield 127, 3) := by decide +kernel
theorem dX11_drop_92 : decode cX11_drop 92 = .ok (.bipush 12, 2) := by decide +kernel
theorem dX11_drop_94 : decode cX11_drop 94 = .ok (.iload 4, 2) := by decide +kernel
theorem dX11_drop_96 : decode cX11_drop 96 = .ok (.iadd, 1) := by decide +kernel
theorem dX11_drop_97 : decode cX11_drop 97 = .ok (.iconst 2, 1) := by decide +kernel
theorem dX11_drop_98 : decode cX11_drop 98 = .ok (.iastore, 1) := by decide +kernel
theorem dX11_drop_99 : decode cX11_drop 99 = .ok (.iinc 4 1, 3) := by decide +kernel
theorem dX11_drop_102 : decode cX11_drop 102 = .ok (.goto (-34), 3) := by decide +kernel
theorem dX11_drop_105 : decode cX11_drop 105 = .ok (.aload_n 0, 1) := by decide +kernel
theorem dX11_drop_106 : decode cX11_drop 106 = .ok (.iconst 1, 1) := by decide +kernel
theorem dX11_drop_107 : decode cX11_drop 107 = .ok (.invokevirtual 443, 3) := by decide +kernel
theorem dX11_drop_110 : decode cX11_drop 110 = .ok (.iload_n 1, 1) := by decide +kernel
theorem dX11_drop_111 : decode cX11_drop 111 = .ok (.if_icmp .ge 5, 3) := by decide +kernel
theorem dX11_drop_114 : decode cX11_drop 114 = .ok (.iload_n 3, 1) := by decide +kernel
theorem dX11_drop_115 : decode cX11_drop 115 = .ok (.istore_n 2, 1) := by decide +kernel
theorem dX11_drop_116 : decode cX11_drop 116 = .ok (.iinc 3 1, 3) := by decide +kernel
theorem dX11_drop_119 : decode cX11_drop 119 = .ok (.goto (-96), 3) := by decide +kernel
theorem dX11_drop_122 : decode cX11_drop 122 = .ok (.iload_n 2, 1) := by decide +kernel
theorem dX11_drop_123 : decode cX11_drop 123 = .ok (.ireturn, 1) := by decide +kernel
theorem dX11_loan_0 : decode cX11_loan 0 = .ok (.aload_n 0, 1) := by decide +kernel
theorem dX11_loan_1 : decode cX11_loan 1 = .ok (.iconst 0, 1) := by decide +kernel
theorem dX11_loan_2 : decode cX11_loan 2 = .ok (.putfield 193, 3) := by decide +kernel
theorem dX11_loan_5 : decode cX11_loan 5 = .ok (.iload_n 1, 1) := by decide +kernel
theorem dX11_loan_6 : decode cX11_loan 6 = .ok (.iconst 1, 1) := by decide +kernel
theorem dX11_loan_7 : decode cX11_loan 7 = .ok (.sipush 9999, 3) := by decide +kernel
theorem dX11_loan_10 : decode cX11_loan 10 = .ok (.invokestatic 238, 3) := by decide +kernel
theorem dX11_loan_13 : decode cX11_loan 13 = .ok (.ifCond .ne 5, 3) := by decide +kernel
theorem dX11_loan_16 : decode cX11_loan 16 = .ok (.iconst (-1), 1) := by decide +kernel
theorem dX11_loan_17 : decode cX11_loan 17 = .ok (.ireturn, 1) := by decide +kernel
theorem dX11_loan_18 : decode cX11_loan 18 = .ok (.aload_n 0, 1) := by decide +kernel
theorem dX11_loan_19 : decode cX11_loan 19 = .ok (.iconst 0, 1) := by decide +kernel
theorem dX11_loan_20 : decode cX11_loan 20 = .ok (.invokevirtual 443, 3) := by decide +kernel
theorem dX11_loan_23 : decode cX11_loan 23 = .ok (.istore_n 2, 1) := by decide +kernel
theorem dX11_loan_24 : decode cX11_loan 24 = .ok (.iload_n 2, 1) := by decide +kernel
theorem dX11_loan_25 : decode cX11_loan 25 = .ok (.iload_n 1, 1) := by decide +kernel
theorem dX11_loan_26 : decode cX11_loan 26 = .ok (.if_icmp .lt 5, 3) := by decide +kernel
theorem dX11_loan_29 : decode cX11_loan 29 = .ok (.iconst 0, 1) := by decide +kernel
theorem dX11_loan_30 : decode cX11_loan 30 = .ok (.ireturn, 1) := by decide +kernel
theorem dX11_loan_31 : decode cX11_loan 31 = .ok (.iconst 1, 1) := by decide +kernel
theorem dX11_loan_32 : decode cX11_loan 32 = .ok (.istore_n 3, 1) := by decide +kernel
theorem dX11_loan_33 : decode cX11_loan 33 = .ok (.iload_n 3, 1) := by decide +kernel
theorem dX11_loan_34 : decode cX11_loan 34 = .ok (.sipush 1000, 3) := by decide +kernel
theorem dX11_loan_37 : decode cX11_loan 37 = .ok (.if_icmp .ge 85, 3) := by decide +kernel
theorem dX11_loan_40 : decode cX11_loan 40 = .ok (.aload_n 0, 1) := by decide +kernel
theorem dX11_loan_41 : decode cX11_loan 41 = .ok (.getfield 93, 3) := by decide +kernel
theorem dX11_loan_44 : decode cX11_loan 44 = .ok (.iconst 0, 1) := by decide +kernel
theorem dX11_loan_45 : decode cX11_loan 45 = .ok (.iload_n 3, 1) := by decide +kernel
theorem dX11_loan_46 : decode cX11_loan 46 = .ok (.i2l, 1) := by decide +kernel
theorem dX11_loan_47 : decode cX11_loan 47 = .ok (.lastore, 1) := by decide +kernel
theorem dX11_loan_48 : decode cX11_loan 48 = .ok (.aload_n 0, 1) := by decide +kernel
theorem dX11_loan_49 : decode cX11_loan 49 = .ok (.getfield 93, 3) := by decide +kernel
theorem dX11_loan_52 : decode cX11_loan 52 = .ok (.iconst 1, 1) := by decide +kernel
theorem dX11_loan_53 : decode cX11_loan 53 = .ok (.lconst 0, 1) := by decide +kernel
theorem dX11_loan_54 : decode cX11_loan 54 = .ok (.lastore, 1) := by decide +kernel
theorem dX11_loan_55 : decode cX11_loan 55 = .ok (.aload_n 0, 1) := by decide +kernel
theorem dX11_loan_56 : decode cX11_loan 56 = .ok (.getfield 93, 3) := by decide +kernel
theorem dX11_loan_59 : decode cX11_loan 59 = .ok (.iconst 2, 1) := by decide +kernel
theorem dX11_loan_60 : decode cX11_loan 60 = .ok (.lconst 0, 1) := by decide +kernel
theorem dX11_loan_61 : decode cX11_loan 61 = .ok (.lastore, 1) := by decide +kernel
theorem dX11_loan_62 : decode cX11_loan 62 = .ok (.aload_n 0, 1) := by decide +kernel
theorem dX11_loan_63 : decode cX11_loan 63 = .ok (.getfield 93, 3) := by decide +kernel
theorem dX11_loan_66 : decode cX11_loan 66 = .ok (.iconst 3, 1) := by decide +kernel
theorem dX11_loan_67 : decode cX11_loan 67 = .ok (.ldc2_w 503, 3) := by decide +kernel
theorem dX11_loan_70 : decode cX11_loan 70 = .ok (.lastore, 1) := by decide +kernel
theorem dX11_loan_71 : decode cX11_loan 71 = .ok (.aload_n 0, 1) := by decide +kernel
theorem dX11_loan_72 : decode cX11_loan 72 = .ok (.getfield 93, 3) := by decide +kernel
theorem dX11_loan_75 : decode cX11_loan 75 = .ok (.iconst 4, 1) := by decide +kernel
theorem dX11_loan_76 : decode cX11_loan 76 = .ok (.aload_n 0, 1) := by decide +kernel
theorem dX11_loan_77 : decode cX11_loan 77 = .ok (.getfield 139, 3) := by decide +kernel
theorem dX11_loan_80 : decode cX11_loan 80 = .ok (.iconst 0, 1) := by decide +kernel
theorem dX11_loan_81 : decode cX11_loan 81 = .ok (.iaload, 1) := by decide +kernel
theorem dX11_loan_82 : decode cX11_loan 82 = .ok (.i2l, 1) := by decide +kernel
theorem dX11_loan_83 : decode cX11_loan 83 = .ok (.lastore, 1) := by decide +kernel
theorem dX11_loan_84 : decode cX11_loan 84 = .ok (.aload_n 0, 1) := by decide +kernel
theorem dX11_loan_85 : decode cX11_loan 85 = .ok (.getfield 93, 3) := by decide +kernel
theorem dX11_loan_88 : decode cX11_loan 88 = .ok (.iconst 5, 1) := by decide +kernel
theorem dX11_loan_89 : decode cX11_loan 89 = .ok (.lconst 0, 1) := by decide +kernel
theorem dX11_loan_90 : decode cX11_loan 90 = .ok (.lastore, 1) := by decide +kernel
theorem dX11_loan_91 : decode cX11_loan 91 = .ok (.aload_n 0, 1) := by decide +kernel
theorem dX11_loan_92 : decode cX11_loan 92 = .ok (.getfield 93, 3) := by decide +kernel
theorem dX11_loan_95 : decode cX11_loan 95 = .ok (.bipush 6, 2) := by decide +kernel
theorem dX11_loan_97 : decode cX11_loan 97 = .ok (.lconst 0, 1) := by decide +kernel
theorem dX11_loan_98 : decode cX11_loan 98 = .ok (.lastore, 1) := by decide +kernel
theorem dX11_loan_99 : decode cX11_loan 99 = .ok (.iload_n 2, 1) := by decide +kernel
theorem dX11_loan_100 : decode cX11_loan 100 = .ok (.aload_n 0, 1) := by decide +kernel
theorem dX11_loan_101 : decode cX11_loan 101 = .ok (.iconst 0, 1) := by decide +kernel
theorem dX11_loan_102 : decode cX11_loan 102 = .ok (.iload_n 3, 1) := by decide +kernel
theorem dX11_loan_103 : decode cX11_loan 103 = .ok (.sipush 9999, 3) := by decide +kernel
theorem dX11_loan_106 : decode cX11_loan 106 = .ok (.invokevirtual 435, 3) := by decide +kernel
theorem dX11_loan_109 : decode cX11_loan 109 = .ok (.iadd, 1) := by decide +kernel
theorem dX11_loan_110 : decode cX11_loan 110 = .ok (.iload_n 1, 1) := by decide +kernel
theorem dX11_loan_111 : decode cX11_loan 111 = .ok (.if_icmp .lt 5, 3) := by decide +kernel
theorem dX11_loan_114 : decode cX11_loan 114 = .ok (.iload_n 3, 1) := by decide +kernel
theorem dX11_loan_115 : decode cX11_loan 115 = .ok (.ireturn, 1) := by decide +kernel
theorem dX11_loan_116 : decode cX11_loan 116 = .ok (.iinc 3 1, 3) := by decide +kernel
theorem dX11_loan_119 : decode cX11_loan 119 = .ok (.goto (-86), 3) := by decide +kernel
theorem dX11_loan_122 : decode cX11_loan 122 = .ok (.bipush (-2), 2) := by decide +kernel
theorem dX11_loan_124 : decode cX11_loan 124 = .ok (.ireturn, 1) := by decide +kernel
theorem dX11_strike_0 : decode cX11_strike 0 = .ok (.aload_n 0, 1) := by decide +kernel
theorem dX11_strike_1 : decode cX11_strike 1 = .ok (.iconst 0, 1) := by decide +kernel
theorem dX11_strike_2 : decode cX11_strike 2 = .ok (.putfield 193, 3) := by decide +kernel
theorem dX11_strike_5 : decode cX11_strike 5 = .ok (.aload_n 0, 1) := by decide +kernel
theorem dX11_strike_6 : decode cX11_strike 6 = .ok (.iload_n 1, 1) := by decide +kernel
theorem dX11_strike_7 : decode cX11_strike 7 = .ok (.invokevirtual 456, 3) := by decide +kernel
theorem dX11_strike_10 : decode cX11_strike 10 = .ok (.ifCond .eq 16, 3) := by decide +kernel
theorem dX11_strike_13 : decode cX11_strike 13 = .ok (.aload_n 0, 1) := by decide +kernel
theorem dX11_strike_14 : decode cX11_strike 14 = .ok (.iload_n 2, 1) := by decide +kernel
theorem dX11_strike_15 : decode cX11_strike 15 = .ok (.invokevirtual 456, 3) := by decide +kernel
theorem dX11_strike_18 : decode cX11_strike 18 = .ok (.ifCond .eq 8, 3) := by decide +kernel
theorem dX11_strike_21 : decode cX11_strike 21 = .ok (.iload_n 1, 1) := by decide +kernel
theorem dX11_strike_22 : decode cX11_strike 22 = .ok (.iload_n 2, 1) := by decide +kernel
theorem dX11_strike_23 : decode cX11_strike 23 = .ok (.if_icmp .ne 5, 3) := by decide +kernel
theorem dX11_strike_26 : decode cX11_strike 26 = .ok (.iconst (-1), 1) := by decide +kernel
theorem dX11_strike_27 : decode cX11_strike 27 = .ok (.ireturn, 1) := by decide +kernel
theorem dX11_strike_28 : decode cX11_strike 28 = .ok (.aload_n 0, 1) := by decide +kernel
theorem dX11_strike_29 : decode cX11_strike 29 = .ok (.iload_n 1, 1) := by decide +kernel
theorem dX11_strike_30 : decode cX11_strike 30 = .ok (.iload_n 2, 1) := by decide +kernel
theorem dX11_strike_31 : decode cX11_strike 31 = .ok (.invokevirtual 462, 3) := by decide +kernel
theorem dX11_strike_34 : decode cX11_strike 34 = .ok (.istore_n 3, 1) := by decide +kernel
theorem dX11_strike_35 : decode cX11_strike 35 = .ok (.aload_n 0, 1) := by decide +kernel
theorem dX11_strike_36 : decode cX11_strike 36 = .ok (.iload_n 2, 1) := by decide +kernel
theorem dX11_strike_37 : decode cX11_strike 37 = .ok (.iload_n 1, 1) := by decide +kernel
theorem dX11_strike_38 : decode cX11_strike 38 = .ok (.invokevirtual 462, 3) := by decide +kernel
theorem dX11_strike_41 : decode cX11_strike 41 = .ok (.istore 4, 2) := by decide +kernel
theorem dX11_strike_43 : decode cX11_strike 43 = .ok (.iload_n 3, 1) := by decide +kernel
theorem dX11_strike_44 : decode cX11_strike 44 = .ok (.iload 4, 2) := by decide +kernel
theorem dX11_strike_46 : decode cX11_strike 46 = .ok (.if_icmp .ge 7, 3) := by decide +kernel
theorem dX11_strike_49 : decode cX11_strike 49 = .ok (.iload_n 3, 1) := by decide +kernel
theorem dX11_strike_50 : decode cX11_strike 50 = .ok (.goto 5, 3) := by decide +kernel
theorem dX11_strike_53 : decode cX11_strike 53 = .ok (.iload 4, 2) := by decide +kernel
theorem dX11_strike_55 : decode cX11_strike 55 = .ok (.ireturn, 1) := by decide +kernel
theorem dX11_mostOf_0 : decode cX11_mostOf 0 = .ok (.aload_n 0, 1) := by decide +kernel
theorem dX11_mostOf_1 : decode cX11_mostOf 1 = .ok (.getfield 151, 3) := by decide +kernel
theorem dX11_mostOf_4 : decode cX11_mostOf 4 = .ok (.bipush 6, 2) := by decide +kernel
theorem dX11_mostOf_6 : decode cX11_mostOf 6 = .ok (.iload_n 1, 1) := by decide +kernel
theorem dX11_mostOf_7 : decode cX11_mostOf 7 = .ok (.imul, 1) := by decide +kernel
theorem dX11_mostOf_8 : decode cX11_mostOf 8 = .ok (.iload_n 2, 1) := by decide +kernel
theorem dX11_mostOf_9 : decode cX11_mostOf 9 = .ok (.iadd, 1) := by decide +kernel
theorem dX11_mostOf_10 : decode cX11_mostOf 10 = .ok (.iaload, 1) := by decide +kernel
theorem dX11_mostOf_11 : decode cX11_mostOf 11 = .ok (.ireturn, 1) := by decide +kernel
theorem dX11_layTwists_0 : decode cX11_layTwists 0 = .ok (.iconst 1, 1) := by decide +kernel
theorem dX11_layTwists_1 : decode cX11_layTwists 1 = .ok (.aload_n 0, 1) := by decide +kernel
theorem dX11_layTwists_2 : decode cX11_layTwists 2 = .ok (.getfield 106, 3) := by decide +kernel
theorem dX11_layTwists_5 : decode cX11_layTwists 5 = .ok (.iconst 0, 1) := by decide +kernel
theorem dX11_layTwists_6 : decode cX11_layTwists 6 = .ok (.iaload, 1) := by decide +kernel
theorem dX11_layTwists_7 : decode cX11_layTwists 7 = .ok (.ishl, 1) := by decide +kernel
theorem dX11_layTwists_8 : decode cX11_layTwists 8 = .ok (.istore_n 2, 1) := by decide +kernel
theorem dX11_layTwists_9 : decode cX11_layTwists 9 = .ok (.iconst 0, 1) := by decide +kernel
theorem dX11_layTwists_10 : decode cX11_layTwists 10 = .ok (.istore_n 3, 1) := by decide +kernel
theorem dX11_layTwists_11 : decode cX11_layTwists 11 = .ok (.iload_n 3, 1) := by decide +kernel
theorem dX11_layTwists_12 : decode cX11_layTwists 12 = .ok (.aload_n 0, 1) := by decide +kernel
theorem dX11_layTwists_13 : decode cX11_layTwists 13 = .ok (.getfield 106, 3) := by decide +kernel
theorem dX11_layTwists_16 : decode cX11_layTwists 16 = .ok (.iconst 0, 1) := by decide +kernel
theorem dX11_layTwists_17 : decode cX11_layTwists 17 = .ok (.iaload, 1) := by decide +kernel
theorem dX11_layTwists_18 : decode cX11_layTwists 18 = .ok (.if_icmp .ge 22, 3) := by decide +kernel
theorem dX11_layTwists_21 : decode cX11_layTwists 21 = .ok (.aload_n 0, 1) := by decide +kernel
theorem dX11_layTwists_22 : decode cX11_layTwists 22 = .ok (.getfield 148, 3) := by decide +kernel
theorem dX11_layTwists_25 : decode cX11_layTwists 25 = .ok (.iload_n 3, 1) := by decide +kernel
theorem dX11_layTwists_26 : decode cX11_layTwists 26 = .ok (.aload_n 0, 1) := by decide +kernel
theorem dX11_layTwists_27 : decode cX11_layTwists 27 = .ok (.iconst 0, 1) := by decide +kernel
theorem dX11_layTwists_28 : decode cX11_layTwists 28 = .ok (.iload_n 3, 1) := by decide +kernel
theorem dX11_layTwists_29 : decode cX11_layTwists 29 = .ok (.iconst 1, 1) := by decide +kernel
theorem dX11_layTwists_30 : decode cX11_layTwists 30 = .ok (.invokevirtual 439, 3) := by decide +kernel
theorem dX11_layTwists_33 : decode cX11_layTwists 33 = .ok (.iastore, 1) := by decide +kernel
theorem dX11_layTwists_34 : decode cX11_layTwists 34 = .ok (.iinc 3 1, 3) := by decide +kernel
theorem dX11_layTwists_37 : decode cX11_layTwists 37 = .ok (.goto (-26), 3) := by decide +kernel
theorem dX11_layTwists_40 : decode cX11_layTwists 40 = .ok (.iconst 0, 1) := by decide +kernel
theorem dX11_layTwists_41 : decode cX11_layTwists 41 = .ok (.istore_n 3, 1) := by decide +kernel
theorem dX11_layTwists_42 : decode cX11_layTwists 42 = .ok (.iload_n 3, 1) := by decide +kernel
theorem dX11_layTwists_43 : decode cX11_layTwists 43 = .ok (.iload_n 1, 1) := by decide +kernel
theorem dX11_layTwists_44 : decode cX11_layTwists 44 = .ok (.if_icmp .gt 21, 3) := by decide +kernel
theorem dX11_layTwists_47 : decode cX11_layTwists 47 = .ok (.aload_n 0, 1) := by decide +kernel
theorem dX11_layTwists_48 : decode cX11_layTwists 48 = .ok (.getfield 151, 3) := by decide +kernel
theorem dX11_layTwists_51 : decode cX11_layTwists 51 = .ok (.iload_n 3, 1) := by decide +kernel
theorem dX11_layTwists_52 : decode cX11_layTwists 52 = .ok (.aload_n 0, 1) := by decide +kernel
theorem dX11_layTwists_53 : decode cX11_layTwists 53 = .ok (.getfield 142, 3) := by decide +kernel
theorem dX11_layTwists_56 : decode cX11_layTwists 56 = .ok (.iconst 0, 1) := by decide +kernel
theorem dX11_layTwists_57 : decode cX11_layTwists 57 = .ok (.iaload, 1) := by decide +kernel
theorem dX11_layTwists_58 : decode cX11_layTwists 58 = .ok (.iastore, 1) := by decide +kernel
theorem dX11_layTwists_59 : decode cX11_layTwists 59 = .ok (.iinc 3 1, 3) := by decide +kernel
theorem dX11_layTwists_62 : decode cX11_layTwists 62 = .ok (.goto (-20), 3) := by decide +kernel
theorem dX11_layTwists_65 : decode cX11_layTwists 65 = .ok (.iconst 1, 1) := by decide +kernel
theorem dX11_layTwists_66 : decode cX11_layTwists 66 = .ok (.istore_n 3, 1) := by decide +kernel
theorem dX11_layTwists_67 : decode cX11_layTwists 67 = .ok (.iload_n 3, 1) := by decide +kernel
theorem dX11_layTwists_68 : decode cX11_layTwists 68 = .ok (.iload_n 2, 1) := by decide +kernel
theorem dX11_layTwists_69 : decode cX11_layTwists 69 = .ok (.if_icmp .ge 204, 3) := by decide +kernel
theorem dX11_layTwists_72 : decode cX11_layTwists 72 = .ok (.iconst 0, 1) := by decide +kernel
theorem dX11_layTwists_73 : decode cX11_layTwists 73 = .ok (.istore 4, 2) := by decide +kernel
theorem dX11_layTwists_75 : decode cX11_layTwists 75 = .ok (.iload_n 3, 1) := by decide +kernel
theorem dX11_layTwists_76 : decode cX11_layTwists 76 = .ok (.iload 4, 2) := by decide +kernel
theorem dX11_layTwists_78 : decode cX11_layTwists 78 = .ok (.invokestatic 485, 3) := by decide +kernel
theorem dX11_layTwists_81 : decode cX11_layTwists 81 = .ok (.ifCond .ne 9, 3) := by decide +kernel
theorem dX11_layTwists_84 : decode cX11_layTwists 84 = .ok (.iinc 4 1, 3) := by decide +kernel
theorem dX11_layTwists_87 : decode cX11_layTwists 87 = .ok (.goto (-12), 3) := by decide +kernel
theorem dX11_layTwists_90 : decode cX11_layTwists 90 = .ok (.iload_n 3, 1) := by decide +kernel
theorem dX11_layTwists_91 : decode cX11_layTwists 91 = .ok (.iconst 1, 1) := by decide +kernel
theorem dX11_layTwists_92 : decode cX11_layTwists 92 = .ok (.iload 4, 2) := by decide +kernel
theorem dX11_layTwists_94 : decode cX11_layTwists 94 = .ok (.ishl, 1) := by decide +kernel
theorem dX11_layTwists_95 : decode cX11_layTwists 95 = .ok (.iconst (-1), 1) := by decide +kernel
theorem dX11_layTwists_96 : decode cX11_layTwists 96 = .ok (.ixor, 1) := by decide +kernel
theorem dX11_layTwists_97 : decode cX11_layTwists 97 = .ok (.iand, 1) := by decide +kernel
theorem dX11_layTwists_98 : decode cX11_layTwists 98 = .ok (.istore 5, 2) := by decide +kernel
theorem dX11_layTwists_100 : decode cX11_layTwists 100 = .ok (.iconst 0, 1) := by decide +kernel
theorem dX11_layTwists_101 : decode cX11_layTwists 101 = .ok (.istore 6, 2) := by decide +kernel
theorem dX11_layTwists_103 : decode cX11_layTwists 103 = .ok (.iload 6, 2) := by decide +kernel
theorem dX11_layTwists_105 : decode cX11_layTwists 105 = .ok (.iload_n 1, 1) := by decide +kernel
theorem dX11_layTwists_106 : decode cX11_layTwists 106 = .ok (.if_icmp .gt 161, 3) := by decide +kernel
theorem dX11_layTwists_109 : decode cX11_layTwists 109 = .ok (.aload_n 0, 1) := by decide +kernel
theorem dX11_layTwists_110 : decode cX11_layTwists 110 = .ok (.iload 5, 2) := by decide +kernel
theorem dX11_layTwists_112 : decode cX11_layTwists 112 = .ok (.iload 6, 2) := by decide +kernel
theorem dX11_layTwists_114 : decode cX11_layTwists 114 = .ok (.invokevirtual 505, 3) := by decide +kernel
theorem dX11_layTwists_117 : decode cX11_layTwists 117 = .ok (.aload_n 0, 1) := by decide +kernel
theorem dX11_layTwists_118 : decode cX11_layTwists 118 = .ok (.getfield 148, 3) := by decide +kernel
theorem dX11_layTwists_121 : decode cX11_layTwists 121 = .ok (.iload 4, 2) := by decide +kernel
theorem dX11_layTwists_123 : decode cX11_layTwists 123 = .ok (.iaload, 1) := by decide +kernel
theorem dX11_layTwists_124 : decode cX11_layTwists 124 = .ok (.iadd, 1) := by decide +kernel
theorem dX11_layTwists_125 : decode cX11_layTwists 125 = .ok (.istore 7, 2) := by decide +kernel
theorem dX11_layTwists_127 : decode cX11_layTwists 127 = .ok (.iload 4, 2) := by decide +kernel
theorem dX11_layTwists_129 : decode cX11_layTwists 129 = .ok (.iconst 1, 1) := by decide +kernel
theorem dX11_layTwists_130 : decode cX11_layTwists 130 = .ok (.iadd, 1) := by decide +kernel
theorem dX11_layTwists_131 : decode cX11_layTwists 131 = .ok (.istore 8, 2) := by decide +kernel
theorem dX11_layTwists_133 : decode cX11_layTwists 133 = .ok (.iload 8, 2) := by decide +kernel
theorem dX11_layTwists_135 : decode cX11_layTwists 135 = .ok (.aload_n 0, 1) := by decide +kernel
theorem dX11_layTwists_136 : decode cX11_layTwists 136 = .ok (.getfield 106, 3) := by decide +kernel
theorem dX11_layTwists_139 : decode cX11_layTwists 139 = .ok (.iconst 0, 1) := by decide +kernel
theorem dX11_layTwists_140 : decode cX11_layTwists 140 = .ok (.iaload, 1) := by decide +kernel
theorem dX11_layTwists_141 : decode cX11_layTwists 141 = .ok (.if_icmp .ge 106, 3) := by decide +kernel
theorem dX11_layTwists_144 : decode cX11_layTwists 144 = .ok (.iload 6, 2) := by decide +kernel
theorem dX11_layTwists_146 : decode cX11_layTwists 146 = .ok (.ifCond .le 101, 3) := by decide +kernel
theorem dX11_layTwists_149 : decode cX11_layTwists 149 = .ok (.aload_n 0, 1) := by decide +kernel
theorem dX11_layTwists_150 : decode cX11_layTwists 150 = .ok (.iconst 0, 1) := by decide +kernel
theorem dX11_layTwists_151 : decode cX11_layTwists 151 = .ok (.iload 4, 2) := by decide +kernel
theorem dX11_layTwists_153 : decode cX11_layTwists 153 = .ok (.invokevirtual 418, 3) := by decide +kernel
theorem dX11_layTwists_156 : decode cX11_layTwists 156 = .ok (.ifCond .eq 91, 3) := by decide +kernel
theorem dX11_layTwists_159 : decode cX11_layTwists 159 = .ok (.iload_n 3, 1) := by decide +kernel
theorem dX11_layTwists_160 : decode cX11_layTwists 160 = .ok (.iload 8, 2) := by decide +kernel
theorem dX11_layTwists_162 : decode cX11_layTwists 162 = .ok (.invokestatic 485, 3) := by decide +kernel
theorem dX11_layTwists_165 : decode cX11_layTwists 165 = .ok (.ifCond .eq 76, 3) := by decide +kernel
theorem dX11_layTwists_168 : decode cX11_layTwists 168 = .ok (.aload_n 0, 1) := by decide +kernel
theorem dX11_layTwists_169 : decode cX11_layTwists 169 = .ok (.iconst 0, 1) := by decide +kernel
theorem dX11_layTwists_170 : decode cX11_layTwists 170 = .ok (.iload 8, 2) := by decide +kernel
theorem dX11_layTwists_172 : decode cX11_layTwists 172 = .ok (.invokevirtual 418, 3) := by decide +kernel
theorem dX11_layTwists_175 : decode cX11_layTwists 175 = .ok (.ifCond .ne 6, 3) := by decide +kernel
theorem dX11_layTwists_178 : decode cX11_layTwists 178 = .ok (.goto 63, 3) := by decide +kernel
theorem dX11_layTwists_181 : decode cX11_layTwists 181 = .ok (.aload_n 0, 1) := by decide +kernel
theorem dX11_layTwists_182 : decode cX11_layTwists 182 = .ok (.getfield 148, 3) := by decide +kernel
theorem dX11_layTwists_185 : decode cX11_layTwists 185 = .ok (.iload 4, 2) := by decide +kernel
theorem dX11_layTwists_187 : decode cX11_layTwists 187 = .ok (.iaload, 1) := by decide +kernel
theorem dX11_layTwists_188 : decode cX11_layTwists 188 = .ok (.aload_n 0, 1) := by decide +kernel
theorem dX11_layTwists_189 : decode cX11_layTwists 189 = .ok (.getfield 148, 3) := by decide +kernel
theorem dX11_layTwists_192 : decode cX11_layTwists 192 = .ok (.iload 8, 2) := by decide +kernel
theorem dX11_layTwists_194 : decode cX11_layTwists 194 = .ok (.iaload, 1) := by decide +kernel
theorem dX11_layTwists_195 : decode cX11_layTwists 195 = .ok (.iadd, 1) := by decide +kernel
theorem dX11_layTwists_196 : decode cX11_layTwists 196 = .ok (.istore 9, 2) := by decide +kernel
theorem dX11_layTwists_198 : decode cX11_layTwists 198 = .ok (.iload 9, 2) := by decide +kernel
theorem dX11_layTwists_200 : decode cX11_layTwists 200 = .ok (.iload 9, 2) := by decide +kernel
theorem dX11_layTwists_202 : decode cX11_layTwists 202 = .ok (.iconst 2, 1) := by decide +kernel
theorem dX11_layTwists_203 : decode cX11_layTwists 203 = .ok (.idiv, 1) := by decide +kernel
theorem dX11_layTwists_204 : decode cX11_layTwists 204 = .ok (.aload_n 0, 1) := by decide +kernel
theorem dX11_layTwists_205 : decode cX11_layTwists 205 = .ok (.iload 5, 2) := by decide +kernel
theorem dX11_layTwists_207 : decode cX11_layTwists 207 = .ok (.iconst 1, 1) := by decide +kernel
theorem dX11_layTwists_208 : decode cX11_layTwists 208 = .ok (.iload 8, 2) := by decide +kernel
theorem dX11_layTwists_210 : decode cX11_layTwists 210 = .ok (.ishl, 1) := by decide +kernel
theorem dX11_layTwists_211 : decode cX11_layTwists 211 = .ok (.iconst (-1), 1) := by decide +kernel
theorem dX11_layTwists_212 : decode cX11_layTwists 212 = .ok (.ixor, 1) := by decide +kernel
theorem dX11_layTwists_213 : decode cX11_layTwists 213 = .ok (.iand, 1) := by decide +kernel
theorem dX11_layTwists_214 : decode cX11_layTwists 214 = .ok (.iload 6, 2) := by decide +kernel
theorem dX11_layTwists_216 : decode cX11_layTwists 216 = .ok (.iconst 1, 1) := by decide +kernel
theorem dX11_layTwists_217 : decode cX11_layTwists 217 = .ok (.isub, 1) := by decide +kernel
theorem dX11_layTwists_218 : decode cX11_layTwists 218 = .ok (.invokevirtual 505, 3) := by decide +kernel
theorem dX11_layTwists_221 : decode cX11_layTwists 221 = .ok (.iadd, 1) := by decide +kernel
theorem dX11_layTwists_222 : decode cX11_layTwists 222 = .ok (.iadd, 1) := by decide +kernel
theorem dX11_layTwists_223 : decode cX11_layTwists 223 = .ok (.istore 9, 2) := by decide +kernel
theorem dX11_layTwists_225 : decode cX11_layTwists 225 = .ok (.iload 9, 2) := by decide +kernel
theorem dX11_layTwists_227 : decode cX11_layTwists 227 = .ok (.iload 7, 2) := by decide +kernel
theorem dX11_layTwists_229 : decode cX11_layTwists 229 = .ok (.if_icmp .le 8, 3) := by decide +kernel
theorem dX11_layTwists_232 : decode cX11_layTwists 232 = .ok (.iload 9, 2) := by decide +kernel
theorem dX11_layTwists_234 : decode cX11_layTwists 234 = .ok (.goto 5, 3) := by decide +kernel
theorem dX11_layTwists_237 : decode cX11_layTwists 237 = .ok (.iload 7, 2) := by decide +kernel
theorem dX11_layTwists_239 : decode cX11_layTwists 239 = .ok (.istore 7, 2) := by decide +kernel
theorem dX11_layTwists_241 : decode cX11_layTwists 241 = .ok (.iinc 8 1, 3) := by decide +kernel
theorem dX11_layTwists_244 : decode cX11_layTwists 244 = .ok (.goto (-111), 3) := by decide +kernel
theorem dX11_layTwists_247 : decode cX11_layTwists 247 = .ok (.aload_n 0, 1) := by decide +kernel
theorem dX11_layTwists_248 : decode cX11_layTwists 248 = .ok (.getfield 151, 3) := by decide +kernel
theorem dX11_layTwists_251 : decode cX11_layTwists 251 = .ok (.bipush 6, 2) := by decide +kernel
theorem dX11_layTwists_253 : decode cX11_layTwists 253 = .ok (.iload_n 3, 1) := by decide +kernel
theorem dX11_layTwists_254 : decode cX11_layTwists 254 = .ok (.imul, 1) := by decide +kernel
theorem dX11_layTwists_255 : decode cX11_layTwists 255 = .ok (.iload 6, 2) := by decide +kernel
theorem dX11_layTwists_257 : decode cX11_layTwists 257 = .ok (.iadd, 1) := by decide +kernel
theorem dX11_layTwists_258 : decode cX11_layTwists 258 = .ok (.iload 7, 2) := by decide +kernel
theorem dX11_layTwists_260 : decode cX11_layTwists 260 = .ok (.iastore, 1) := by decide +kernel
theorem dX11_layTwists_261 : decode cX11_layTwists 261 = .ok (.iinc 6 1, 3) := by decide +kernel
theorem dX11_layTwists_264 : decode cX11_layTwists 264 = .ok (.goto (-161), 3) := by decide +kernel
theorem dX11_layTwists_267 : decode cX11_layTwists 267 = .ok (.iinc 3 1, 3) := by decide +kernel
theorem dX11_layTwists_270 : decode cX11_layTwists 270 = .ok (.goto (-203), 3) := by decide +kernel
theorem dX11_layTwists_273 : decode cX11_layTwists 273 = .ok (.iload_n 2, 1) := by decide +kernel
theorem dX11_layTwists_274 : decode cX11_layTwists 274 = .ok (.iconst 1, 1) := by decide +kernel
theorem dX11_layTwists_275 : decode cX11_layTwists 275 = .ok (.isub, 1) := by decide +kernel
theorem dX11_layTwists_276 : decode cX11_layTwists 276 = .ok (.istore_n 3, 1) := by decide +kernel
theorem dX11_layTwists_277 : decode cX11_layTwists 277 = .ok (.iload_n 1, 1) := by decide +kernel
theorem dX11_layTwists_278 : decode cX11_layTwists 278 = .ok (.istore 4, 2) := by decide +kernel
theorem dX11_layTwists_280 : decode cX11_layTwists 280 = .ok (.iload_n 3, 1) := by decide +kernel
theorem dX11_layTwists_281 : decode cX11_layTwists 281 = .ok (.ifCond .eq 132, 3) := by decide +kernel
theorem dX11_layTwists_284 : decode cX11_layTwists 284 = .ok (.iconst 0, 1) := by decide +kernel
theorem dX11_layTwists_285 : decode cX11_layTwists 285 = .ok (.istore 5, 2) := by decide +kernel
theorem dX11_layTwists_287 : decode cX11_layTwists 287 = .ok (.iload_n 3, 1) := by decide +kernel
theorem dX11_layTwists_288 : decode cX11_layTwists 288 = .ok (.iload 5, 2) := by decide +kernel
theorem dX11_layTwists_290 : decode cX11_layTwists 290 = .ok (.invokestatic 485, 3) := by decide +kernel
theorem dX11_layTwists_293 : decode cX11_layTwists 293 = .ok (.ifCond .ne 9, 3) := by decide +kernel
theorem dX11_layTwists_296 : decode cX11_layTwists 296 = .ok (.iinc 5 1, 3) := by decide +kernel
theorem dX11_layTwists_299 : decode cX11_layTwists 299 = .ok (.goto (-12), 3) := by decide +kernel
theorem dX11_layTwists_302 : decode cX11_layTwists 302 = .ok (.aload_n 0, 1) := by decide +kernel
theorem dX11_layTwists_303 : decode cX11_layTwists 303 = .ok (.iload_n 3, 1) := by decide +kernel
theorem dX11_layTwists_304 : decode cX11_layTwists 304 = .ok (.iload 4, 2) := by decide +kernel
theorem dX11_layTwists_306 : decode cX11_layTwists 306 = .ok (.invokevirtual 505, 3) := by decide +kernel
theorem dX11_layTwists_309 : decode cX11_layTwists 309 = .ok (.istore 6, 2) := by decide +kernel
theorem dX11_layTwists_311 : decode cX11_layTwists 311 = .ok (.iload_n 3, 1) := by decide +kernel
theorem dX11_layTwists_312 : decode cX11_layTwists 312 = .ok (.iconst 1, 1) := by decide +kernel
theorem dX11_layTwists_313 : decode cX11_layTwists 313 = .ok (.iload 5, 2) := by decide +kernel
theorem dX11_layTwists_315 : decode cX11_layTwists 315 = .ok (.ishl, 1) := by decide +kernel
theorem dX11_layTwists_316 : decode cX11_layTwists 316 = .ok (.iconst (-1), 1) := by decide +kernel
theorem dX11_layTwists_317 : decode cX11_layTwists 317 = .ok (.ixor, 1) := by decide +kernel
theorem dX11_layTwists_318 : decode cX11_layTwists 318 = .ok (.iand, 1) := by decide +kernel
theorem dX11_layTwists_319 : decode cX11_layTwists 319 = .ok (.istore_n 3, 1) := by decide +kernel
theorem dX11_layTwists_320 : decode cX11_layTwists 320 = .ok (.aload_n 0, 1) := by decide +kernel
theorem dX11_layTwists_321 : decode cX11_layTwists 321 = .ok (.getfield 154, 3) := by decide +kernel
theorem dX11_layTwists_324 : decode cX11_layTwists 324 = .ok (.iload 5, 2) := by decide +kernel
theorem dX11_layTwists_326 : decode cX11_layTwists 326 = .ok (.bipush (-2), 2) := by decide +kernel
theorem dX11_layTwists_328 : decode cX11_layTwists 328 = .ok (.iastore, 1) := by decide +kernel
theorem dX11_layTwists_329 : decode cX11_layTwists 329 = .ok (.aload_n 0, 1) := by decide +kernel
theorem dX11_layTwists_330 : decode cX11_layTwists 330 = .ok (.iload_n 3, 1) := by decide +kernel
theorem dX11_layTwists_331 : decode cX11_layTwists 331 = .ok (.iload 4, 2) := by decide +kernel
theorem dX11_layTwists_333 : decode cX11_layTwists 333 = .ok (.invokevirtual 505, 3) := by decide +kernel
theorem dX11_layTwists_336 : decode cX11_layTwists 336 = .ok (.aload_n 0, 1) := by decide +kernel
theorem dX11_layTwists_337 : decode cX11_layTwists 337 = .ok (.getfield 148, 3) := by decide +kernel
theorem dX11_layTwists_340 : decode cX11_layTwists 340 = .ok (.iload 5, 2) := by decide +kernel
theorem dX11_layTwists_342 : decode cX11_layTwists 342 = .ok (.iaload, 1) := by decide +kernel
theorem dX11_layTwists_343 : decode cX11_layTwists 343 = .ok (.iadd, 1) := by decide +kernel
theorem dX11_layTwists_344 : decode cX11_layTwists 344 = .ok (.iload 6, 2) := by decide +kernel
theorem dX11_layTwists_346 : decode cX11_layTwists 346 = .ok (.if_icmp .ne 6, 3) := by decide +kernel
theorem dX11_layTwists_349 : decode cX11_layTwists 349 = .ok (.goto (-69), 3) := by decide +kernel
theorem dX11_layTwists_352 : decode cX11_layTwists 352 = .ok (.iload 5, 2) := by decide +kernel
theorem dX11_layTwists_354 : decode cX11_layTwists 354 = .ok (.iconst 1, 1) := by decide +kernel
theorem dX11_layTwists_355 : decode cX11_layTwists 355 = .ok (.iadd, 1) := by decide +kernel
theorem dX11_layTwists_356 : decode cX11_layTwists 356 = .ok (.istore 7, 2) := by decide +kernel
theorem dX11_layTwists_358 : decode cX11_layTwists 358 = .ok (.aload_n 0, 1) := by decide +kernel
theorem dX11_layTwists_359 : decode cX11_layTwists 359 = .ok (.iload_n 3, 1) := by decide +kernel
theorem dX11_layTwists_360 : decode cX11_layTwists 360 = .ok (.iload 5, 2) := by decide +kernel
theorem dX11_layTwists_362 : decode cX11_layTwists 362 = .ok (.iload 7, 2) := by decide +kernel
theorem dX11_layTwists_364 : decode cX11_layTwists 364 = .ok (.iload 4, 2) := by decide +kernel
theorem dX11_layTwists_366 : decode cX11_layTwists 366 = .ok (.iload 6, 2) := by decide +kernel
theorem dX11_layTwists_368 : decode cX11_layTwists 368 = .ok (.invokevirtual 508, 3) := by decide +kernel
theorem dX11_layTwists_371 : decode cX11_layTwists 371 = .ok (.ifCond .ne 9, 3) := by decide +kernel
theorem dX11_layTwists_374 : decode cX11_layTwists 374 = .ok (.iinc 7 1, 3) := by decide +kernel
theorem dX11_layTwists_377 : decode cX11_layTwists 377 = .ok (.goto (-19), 3) := by decide +kernel
theorem dX11_layTwists_380 : decode cX11_layTwists 380 = .ok (.aload_n 0, 1) := by decide +kernel
theorem dX11_layTwists_381 : decode cX11_layTwists 381 = .ok (.getfield 154, 3) := by decide +kernel
theorem dX11_layTwists_384 : decode cX11_layTwists 384 = .ok (.iload 5, 2) := by decide +kernel
theorem dX11_layTwists_386 : decode cX11_layTwists 386 = .ok (.iload 7, 2) := by decide +kernel
theorem dX11_layTwists_388 : decode cX11_layTwists 388 = .ok (.iastore, 1) := by decide +kernel
theorem dX11_layTwists_389 : decode cX11_layTwists 389 = .ok (.aload_n 0, 1) := by decide +kernel
theorem dX11_layTwists_390 : decode cX11_layTwists 390 = .ok (.getfield 154, 3) := by decide +kernel
theorem dX11_layTwists_393 : decode cX11_layTwists 393 = .ok (.iload 7, 2) := by decide +kernel
theorem dX11_layTwists_395 : decode cX11_layTwists 395 = .ok (.iload 5, 2) := by decide +kernel
theorem dX11_layTwists_397 : decode cX11_layTwists 397 = .ok (.iastore, 1) := by decide +kernel
theorem dX11_layTwists_398 : decode cX11_layTwists 398 = .ok (.iload_n 3, 1) := by decide +kernel
theorem dX11_layTwists_399 : decode cX11_layTwists 399 = .ok (.iconst 1, 1) := by decide +kernel
theorem dX11_layTwists_400 : decode cX11_layTwists 400 = .ok (.iload 7, 2) := by decide +kernel
theorem dX11_layTwists_402 : decode cX11_layTwists 402 = .ok (.ishl, 1) := by decide +kernel
theorem dX11_layTwists_403 : decode cX11_layTwists 403 = .ok (.iconst (-1), 1) := by decide +kernel
theorem dX11_layTwists_404 : decode cX11_layTwists 404 = .ok (.ixor, 1) := by decide +kernel
theorem dX11_layTwists_405 : decode cX11_layTwists 405 = .ok (.iand, 1) := by decide +kernel
theorem dX11_layTwists_406 : decode cX11_layTwists 406 = .ok (.istore_n 3, 1) := by decide +kernel
theorem dX11_layTwists_407 : decode cX11_layTwists 407 = .ok (.iinc 4 (-1), 3) := by decide +kernel
theorem dX11_layTwists_410 : decode cX11_layTwists 410 = .ok (.goto (-130), 3) := by decide +kernel
theorem dX11_layTwists_413 : decode cX11_layTwists 413 = .ok (.return_, 1) := by decide +kernel
theorem dX11_isTwin_0 : decode cX11_isTwin 0 = .ok (.iload_n 1, 1) := by decide +kernel
theorem dX11_isTwin_1 : decode cX11_isTwin 1 = .ok (.iload_n 3, 1) := by decide +kernel
theorem dX11_isTwin_2 : decode cX11_isTwin 2 = .ok (.invokestatic 485, 3) := by decide +kernel
theorem dX11_isTwin_5 : decode cX11_isTwin 5 = .ok (.ifCond .eq 12, 3) := by decide +kernel
theorem dX11_isTwin_8 : decode cX11_isTwin 8 = .ok (.aload_n 0, 1) := by decide +kernel
theorem dX11_isTwin_9 : decode cX11_isTwin 9 = .ok (.iconst 0, 1) := by decide +kernel
theorem dX11_isTwin_10 : decode cX11_isTwin 10 = .ok (.iload_n 3, 1) := by decide +kernel
theorem dX11_isTwin_11 : decode cX11_isTwin 11 = .ok (.invokevirtual 418, 3) := by decide +kernel
theorem dX11_isTwin_14 : decode cX11_isTwin 14 = .ok (.ifCond .ne 5, 3) := by decide +kernel
theorem dX11_isTwin_17 : decode cX11_isTwin 17 = .ok (.iconst 0, 1) := by decide +kernel
theorem dX11_isTwin_18 : decode cX11_isTwin 18 = .ok (.ireturn, 1) := by decide +kernel
theorem dX11_isTwin_19 : decode cX11_isTwin 19 = .ok (.aload_n 0, 1) := by decide +kernel
theorem dX11_isTwin_20 : decode cX11_isTwin 20 = .ok (.getfield 148, 3) := by decide +kernel
theorem dX11_isTwin_23 : decode cX11_isTwin 23 = .ok (.iload_n 2, 1) := by decide +kernel
theorem dX11_isTwin_24 : decode cX11_isTwin 24 = .ok (.iaload, 1) := by decide +kernel
theorem dX11_isTwin_25 : decode cX11_isTwin 25 = .ok (.aload_n 0, 1) := by decide +kernel
theorem dX11_isTwin_26 : decode cX11_isTwin 26 = .ok (.getfield 148, 3) := by decide +kernel
theorem dX11_isTwin_29 : decode cX11_isTwin 29 = .ok (.iload_n 3, 1) := by decide +kernel
theorem dX11_isTwin_30 : decode cX11_isTwin 30 = .ok (.iaload, 1) := by decide +kernel
theorem dX11_isTwin_31 : decode cX11_isTwin 31 = .ok (.iadd, 1) := by decide +kernel
theorem dX11_isTwin_32 : decode cX11_isTwin 32 = .ok (.istore 6, 2) := by decide +kernel
theorem dX11_isTwin_34 : decode cX11_isTwin 34 = .ok (.iload 6, 2) := by decide +kernel
theorem dX11_isTwin_36 : decode cX11_isTwin 36 = .ok (.iload 6, 2) := by decide +kernel
theorem dX11_isTwin_38 : decode cX11_isTwin 38 = .ok (.iconst 2, 1) := by decide +kernel
theorem dX11_isTwin_39 : decode cX11_isTwin 39 = .ok (.idiv, 1) := by decide +kernel
theorem dX11_isTwin_40 : decode cX11_isTwin 40 = .ok (.iadd, 1) := by decide +kernel
theorem dX11_isTwin_41 : decode cX11_isTwin 41 = .ok (.aload_n 0, 1) := by decide +kernel
theorem dX11_isTwin_42 : decode cX11_isTwin 42 = .ok (.iload_n 1, 1) := by decide +kernel
theorem dX11_isTwin_43 : decode cX11_isTwin 43 = .ok (.iconst 1, 1) := by decide +kernel
theorem dX11_isTwin_44 : decode cX11_isTwin 44 = .ok (.iload_n 3, 1) := by decide +kernel
theorem dX11_isTwin_45 : decode cX11_isTwin 45 = .ok (.ishl, 1) := by decide +kernel
theorem dX11_isTwin_46 : decode cX11_isTwin 46 = .ok (.iconst (-1), 1) := by decide +kernel
theorem dX11_isTwin_47 : decode cX11_isTwin 47 = .ok (.ixor, 1) := by decide +kernel
theorem dX11_isTwin_48 : decode cX11_isTwin 48 = .ok (.iand, 1) := by decide +kernel
theorem dX11_isTwin_49 : decode cX11_isTwin 49 = .ok (.iload 4, 2) := by decide +kernel
theorem dX11_isTwin_51 : decode cX11_isTwin 51 = .ok (.iconst 1, 1) := by decide +kernel
theorem dX11_isTwin_52 : decode cX11_isTwin 52 = .ok (.isub, 1) := by decide +kernel
theorem dX11_isTwin_53 : decode cX11_isTwin 53 = .ok (.invokevirtual 505, 3) := by decide +kernel
theorem dX11_isTwin_56 : decode cX11_isTwin 56 = .ok (.iadd, 1) := by decide +kernel
theorem dX11_isTwin_57 : decode cX11_isTwin 57 = .ok (.iload 5, 2) := by decide +kernel
theorem dX11_isTwin_59 : decode cX11_isTwin 59 = .ok (.if_icmp .ne 7, 3) := by decide +kernel
theorem dX11_isTwin_62 : decode cX11_isTwin 62 = .ok (.iconst 1, 1) := by decide +kernel
theorem dX11_isTwin_63 : decode cX11_isTwin 63 = .ok (.goto 4, 3) := by decide +kernel
theorem dX11_isTwin_66 : decode cX11_isTwin 66 = .ok (.iconst 0, 1) := by decide +kernel
theorem dX11_isTwin_67 : decode cX11_isTwin 67 = .ok (.ireturn, 1) := by decide +kernel
theorem dX11_twists_0 : decode cX11_twists 0 = .ok (.aload_n 0, 1) := by decide +kernel
theorem dX11_twists_1 : decode cX11_twists 1 = .ok (.iconst 0, 1) := by decide +kernel
theorem dX11_twists_2 : decode cX11_twists 2 = .ok (.putfield 193, 3) := by decide +kernel
theorem dX11_twists_5 : decode cX11_twists 5 = .ok (.iload_n 1, 1) := by decide +kernel
theorem dX11_twists_6 : decode cX11_twists 6 = .ok (.iconst 0, 1) := by decide +kernel
theorem dX11_twists_7 : decode cX11_twists 7 = .ok (.iconst 5, 1) := by decide +kernel
theorem dX11_twists_8 : decode cX11_twists 8 = .ok (.invokestatic 238, 3) := by decide +kernel
theorem dX11_twists_11 : decode cX11_twists 11 = .ok (.ifCond .ne 5, 3) := by decide +kernel
theorem dX11_twists_14 : decode cX11_twists 14 = .ok (.iconst (-1), 1) := by decide +kernel
theorem dX11_twists_15 : decode cX11_twists 15 = .ok (.ireturn, 1) := by decide +kernel
theorem dX11_twists_16 : decode cX11_twists 16 = .ok (.aload_n 0, 1) := by decide +kernel
theorem dX11_twists_17 : decode cX11_twists 17 = .ok (.iload_n 1, 1) := by decide +kernel
theorem dX11_twists_18 : decode cX11_twists 18 = .ok (.invokevirtual 512, 3) := by decide +kernel
theorem dX11_twists_21 : decode cX11_twists 21 = .ok (.aload_n 0, 1) := by decide +kernel
theorem dX11_twists_22 : decode cX11_twists 22 = .ok (.iconst 1, 1) := by decide +kernel
theorem dX11_twists_23 : decode cX11_twists 23 = .ok (.aload_n 0, 1) := by decide +kernel
theorem dX11_twists_24 : decode cX11_twists 24 = .ok (.getfield 106, 3) := by decide +kernel
theorem dX11_twists_27 : decode cX11_twists 27 = .ok (.iconst 0, 1) := by decide +kernel
theorem dX11_twists_28 : decode cX11_twists 28 = .ok (.iaload, 1) := by decide +kernel
theorem dX11_twists_29 : decode cX11_twists 29 = .ok (.ishl, 1) := by decide +kernel
theorem dX11_twists_30 : decode cX11_twists 30 = .ok (.iconst 1, 1) := by decide +kernel
theorem dX11_twists_31 : decode cX11_twists 31 = .ok (.isub, 1) := by decide +kernel
theorem dX11_twists_32 : decode cX11_twists 32 = .ok (.iload_n 1, 1) := by decide +kernel
theorem dX11_twists_33 : decode cX11_twists 33 = .ok (.invokevirtual 505, 3) := by decide +kernel
theorem dX11_twists_36 : decode cX11_twists 36 = .ok (.ireturn, 1) := by decide +kernel
theorem dX11_partner_0 : decode cX11_partner 0 = .ok (.aload_n 0, 1) := by decide +kernel
theorem dX11_partner_1 : decode cX11_partner 1 = .ok (.iconst 0, 1) := by decide +kernel
theorem dX11_partner_2 : decode cX11_partner 2 = .ok (.putfield 193, 3) := by decide +kernel
theorem dX11_partner_5 : decode cX11_partner 5 = .ok (.iload_n 1, 1) := by decide +kernel
theorem dX11_partner_6 : decode cX11_partner 6 = .ok (.iconst 0, 1) := by decide +kernel
theorem dX11_partner_7 : decode cX11_partner 7 = .ok (.iconst 5, 1) := by decide +kernel
theorem dX11_partner_8 : decode cX11_partner 8 = .ok (.invokestatic 238, 3) := by decide +kernel
theorem dX11_partner_11 : decode cX11_partner 11 = .ok (.ifCond .eq 20, 3) := by decide +kernel
theorem dX11_partner_14 : decode cX11_partner 14 = .ok (.aload_n 0, 1) := by decide +kernel
theorem dX11_partner_15 : decode cX11_partner 15 = .ok (.iload_n 2, 1) := by decide +kernel
theorem dX11_partner_16 : decode cX11_partner 16 = .ok (.invokevirtual 465, 3) := by decide +kernel
theorem dX11_partner_19 : decode cX11_partner 19 = .ok (.ifCond .eq 12, 3) := by decide +kernel
theorem dX11_partner_22 : decode cX11_partner 22 = .ok (.aload_n 0, 1) := by decide +kernel
theorem dX11_partner_23 : decode cX11_partner 23 = .ok (.iconst 0, 1) := by decide +kernel
theorem dX11_partner_24 : decode cX11_partner 24 = .ok (.iload_n 2, 1) := by decide +kernel
theorem dX11_partner_25 : decode cX11_partner 25 = .ok (.invokevirtual 418, 3) := by decide +kernel
theorem dX11_partner_28 : decode cX11_partner 28 = .ok (.ifCond .ne 5, 3) := by decide +kernel
theorem dX11_partner_31 : decode cX11_partner 31 = .ok (.iconst (-1), 1) := by decide +kernel
theorem dX11_partner_32 : decode cX11_partner 32 = .ok (.ireturn, 1) := by decide +kernel
theorem dX11_partner_33 : decode cX11_partner 33 = .ok (.aload_n 0, 1) := by decide +kernel
theorem dX11_partner_34 : decode cX11_partner 34 = .ok (.iload_n 1, 1) := by decide +kernel
theorem dX11_partner_35 : decode cX11_partner 35 = .ok (.invokevirtual 512, 3) := by decide +kernel
theorem dX11_partner_38 : decode cX11_partner 38 = .ok (.aload_n 0, 1) := by decide +kernel
theorem dX11_partner_39 : decode cX11_partner 39 = .ok (.getfield 154, 3) := by decide +kernel
theorem dX11_partner_42 : decode cX11_partner 42 = .ok (.iload_n 2, 1) := by decide +kernel
theorem dX11_partner_43 : decode cX11_partner 43 = .ok (.iaload, 1) := by decide +kernel
theorem dX11_partner_44 : decode cX11_partner 44 = .ok (.ireturn, 1) := by decide +kernel
theorem dX11_life_0 : decode cX11_life 0 = .ok (.aload_n 0, 1) := by decide +kernel
theorem dX11_life_1 : decode cX11_life 1 = .ok (.iconst 0, 1) := by decide +kernel
theorem dX11_life_2 : decode cX11_life 2 = .ok (.putfield 193, 3) := by decide +kernel
theorem dX11_life_5 : decode cX11_life 5 = .ok (.aload_n 0, 1) := by decide +kernel
theorem dX11_life_6 : decode cX11_life 6 = .ok (.iload_n 1, 1) := by decide +kernel
theorem dX11_life_7 : decode cX11_life 7 = .ok (.invokevirtual 465, 3) := by decide +kernel
theorem dX11_life_10 : decode cX11_life 10 = .ok (.ifCond .ne 5, 3) := by decide +kernel
theorem dX11_life_13 : decode cX11_life 13 = .ok (.iconst (-1), 1) := by decide +kernel
theorem dX11_life_14 : decode cX11_life 14 = .ok (.ireturn, 1) := by decide +kernel
theorem dX11_life_15 : decode cX11_life 15 = .ok (.aload_n 0, 1) := by decide +kernel
theorem dX11_life_16 : decode cX11_life 16 = .ok (.invokevirtual 482, 3) := by decide +kernel
theorem dX11_life_19 : decode cX11_life 19 = .ok (.iconst 0, 1) := by decide +kernel
theorem dX11_life_20 : decode cX11_life 20 = .ok (.istore_n 2, 1) := by decide +kernel
theorem dX11_life_21 : decode cX11_life 21 = .ok (.iload_n 2, 1) := by decide +kernel
theorem dX11_life_22 : decode cX11_life 22 = .ok (.bipush 99, 2) := by decide +kernel
theorem dX11_life_24 : decode cX11_life 24 = .ok (.if_icmp .ge 25, 3) := by decide +kernel
theorem dX11_life_27 : decode cX11_life 27 = .ok (.aload_n 0, 1) := by decide +kernel
theorem dX11_life_28 : decode cX11_life 28 = .ok (.iconst 1, 1) := by decide +kernel
theorem dX11_life_29 : decode cX11_life 29 = .ok (.iload_n 1, 1) := by decide +kernel
theorem dX11_life_30 : decode cX11_life 30 = .ok (.invokevirtual 418, 3) := by decide +kernel
theorem dX11_life_33 : decode cX11_life 33 = .ok (.ifCond .ne 5, 3) := by decide +kernel
theorem dX11_life_36 : decode cX11_life 36 = .ok (.iload_n 2, 1) := by decide +kernel
theorem dX11_life_37 : decode cX11_life 37 = .ok (.ireturn, 1) := by decide +kernel
theorem dX11_life_38 : decode cX11_life 38 = .ok (.aload_n 0, 1) := by decide +kernel
theorem dX11_life_39 : decode cX11_life 39 = .ok (.iconst 1, 1) := by decide +kernel
theorem dX11_life_40 : decode cX11_life 40 = .ok (.invokevirtual 479, 3) := by decide +kernel
theorem dX11_life_43 : decode cX11_life 43 = .ok (.iinc 2 1, 3) := by decide +kernel
theorem dX11_life_46 : decode cX11_life 46 = .ok (.goto (-25), 3) := by decide +kernel
theorem dX11_life_49 : decode cX11_life 49 = .ok (.bipush 99, 2) := by decide +kernel
theorem dX11_life_51 : decode cX11_life 51 = .ok (.ireturn, 1) := by decide +kernel
theorem dX11_ahead_0 : decode cX11_ahead 0 = .ok (.aload_n 0, 1) := by decide +kernel
theorem dX11_ahead_1 : decode cX11_ahead 1 = .ok (.iconst 0, 1) := by decide +kernel
theorem dX11_ahead_2 : decode cX11_ahead 2 = .ok (.putfield 193, 3) := by decide +kernel
theorem dX11_ahead_5 : decode cX11_ahead 5 = .ok (.iload_n 1, 1) := by decide +kernel
theorem dX11_ahead_6 : decode cX11_ahead 6 = .ok (.iconst 0, 1) := by decide +kernel
theorem dX11_ahead_7 : decode cX11_ahead 7 = .ok (.bipush 99, 2) := by decide +kernel
theorem dX11_ahead_9 : decode cX11_ahead 9 = .ok (.invokestatic 238, 3) := by decide +kernel
theorem dX11_ahead_12 : decode cX11_ahead 12 = .ok (.ifCond .ne 5, 3) := by decide +kernel
theorem dX11_ahead_15 : decode cX11_ahead 15 = .ok (.iconst (-1), 1) := by decide +kernel
theorem dX11_ahead_16 : decode cX11_ahead 16 = .ok (.ireturn, 1) := by decide +kernel
theorem dX11_ahead_17 : decode cX11_ahead 17 = .ok (.aload_n 0, 1) := by decide +kernel
theorem dX11_ahead_18 : decode cX11_ahead 18 = .ok (.invokevirtual 482, 3) := by decide +kernel
theorem dX11_ahead_21 : decode cX11_ahead 21 = .ok (.iconst 0, 1) := by decide +kernel
theorem dX11_ahead_22 : decode cX11_ahead 22 = .ok (.istore_n 2, 1) := by decide +kernel
theorem dX11_ahead_23 : decode cX11_ahead 23 = .ok (.iload_n 2, 1) := by decide +kernel
theorem dX11_ahead_24 : decode cX11_ahead 24 = .ok (.iload_n 1, 1) := by decide +kernel
theorem dX11_ahead_25 : decode cX11_ahead 25 = .ok (.if_icmp .ge 67, 3) := by decide +kernel
theorem dX11_ahead_28 : decode cX11_ahead 28 = .ok (.aload_n 0, 1) := by decide +kernel
theorem dX11_ahead_29 : decode cX11_ahead 29 = .ok (.getfield 139, 3) := by decide +kernel
theorem dX11_ahead_32 : decode cX11_ahead 32 = .ok (.iconst 1, 1) := by decide +kernel
theorem dX11_ahead_33 : decode cX11_ahead 33 = .ok (.iaload, 1) := by decide +kernel
theorem dX11_ahead_34 : decode cX11_ahead 34 = .ok (.istore_n 3, 1) := by decide +kernel
theorem dX11_ahead_35 : decode cX11_ahead 35 = .ok (.aload_n 0, 1) := by decide +kernel
theorem dX11_ahead_36 : decode cX11_ahead 36 = .ok (.iconst 1, 1) := by decide +kernel
theorem dX11_ahead_37 : decode cX11_ahead 37 = .ok (.invokevirtual 479, 3) := by decide +kernel
theorem dX11_ahead_40 : decode cX11_ahead 40 = .ok (.iconst 0, 1) := by decide +kernel
theorem dX11_ahead_41 : decode cX11_ahead 41 = .ok (.istore 4, 2) := by decide +kernel
theorem dX11_ahead_43 : decode cX11_ahead 43 = .ok (.iload 4, 2) := by decide +kernel
theorem dX11_ahead_45 : decode cX11_ahead 45 = .ok (.aload_n 0, 1) := by decide +kernel
theorem dX11_ahead_46 : decode cX11_ahead 46 = .ok (.getfield 276, 3) := by decide +kernel
theorem dX11_ahead_49 : decode cX11_ahead 49 = .ok (.if_icmp .ge 37, 3) := by decide +kernel
theorem dX11_ahead_52 : decode cX11_ahead 52 = .ok (.aload_n 0, 1) := by decide +kernel
theorem dX11_ahead_53 : decode cX11_ahead 53 = .ok (.getfield 66, 3) := by decide +kernel
theorem dX11_ahead_56 : decode cX11_ahead 56 = .ok (.iload 4, 2) := by decide +kernel
theorem dX11_ahead_58 : decode cX11_ahead 58 = .ok (.iaload, 1) := by decide +kernel
theorem dX11_ahead_59 : decode cX11_ahead 59 = .ok (.iload_n 3, 1) := by decide +kernel
theorem dX11_ahead_60 : decode cX11_ahead 60 = .ok (.if_icmp .ne 20, 3) := by decide +kernel
theorem dX11_ahead_63 : decode cX11_ahead 63 = .ok (.aload_n 0, 1) := by decide +kernel
theorem dX11_ahead_64 : decode cX11_ahead 64 = .ok (.getfield 136, 3) := by decide +kernel
theorem dX11_ahead_67 : decode cX11_ahead 67 = .ok (.bipush 8, 2) := by decide +kernel
theorem dX11_ahead_69 : decode cX11_ahead 69 = .ok (.iload 4, 2) := by decide +kernel
theorem dX11_ahead_71 : decode cX11_ahead 71 = .ok (.iadd, 1) := by decide +kernel
theorem dX11_ahead_72 : decode cX11_ahead 72 = .ok (.iaload, 1) := by decide +kernel
theorem dX11_ahead_73 : decode cX11_ahead 73 = .ok (.iconst 2, 1) := by decide +kernel
theorem dX11_ahead_74 : decode cX11_ahead 74 = .ok (.if_icmp .ne 6, 3) := by decide +kernel
theorem dX11_ahead_77 : decode cX11_ahead 77 = .ok (.iload 4, 2) := by decide +kernel
theorem dX11_ahead_79 : decode cX11_ahead 79 = .ok (.ireturn, 1) := by decide +kernel
theorem dX11_ahead_80 : decode cX11_ahead 80 = .ok (.iinc 4 1, 3) := by decide +kernel
theorem dX11_ahead_83 : decode cX11_ahead 83 = .ok (.goto (-40), 3) := by decide +kernel
theorem dX11_ahead_86 : decode cX11_ahead 86 = .ok (.iinc 2 1, 3) := by decide +kernel
theorem dX11_ahead_89 : decode cX11_ahead 89 = .ok (.goto (-66), 3) := by decide +kernel
theorem dX11_ahead_92 : decode cX11_ahead 92 = .ok (.bipush (-2), 2) := by decide +kernel
theorem dX11_ahead_94 : decode cX11_ahead 94 = .ok (.ireturn, 1) := by decide +kernel
theorem dX11_noted_0 : decode cX11_noted 0 = .ok (.aload_n 0, 1) := by decide +kernel
theorem dX11_noted_1 : decode cX11_noted 1 = .ok (.getfield 160, 3) := by decide +kernel
theorem dX11_noted_4 : decode cX11_noted 4 = .ok (.iconst 4, 1) := by decide +kernel
theorem dX11_noted_5 : decode cX11_noted 5 = .ok (.aload_n 0, 1) := by decide +kernel
theorem dX11_noted_6 : decode cX11_noted 6 = .ok (.getfield 400, 3) := by decide +kernel
theorem dX11_noted_9 : decode cX11_noted 9 = .ok (.imul, 1) := by decide +kernel
theorem dX11_noted_10 : decode cX11_noted 10 = .ok (.iload_n 1, 1) := by decide +kernel
theorem dX11_noted_11 : decode cX11_noted 11 = .ok (.iastore, 1) := by decide +kernel
theorem dX11_noted_12 : decode cX11_noted 12 = .ok (.aload_n 0, 1) := by decide +kernel
theorem dX11_noted_13 : decode cX11_noted 13 = .ok (.getfield 160, 3) := by decide +kernel
theorem dX11_noted_16 : decode cX11_noted 16 = .ok (.iconst 4, 1) := by decide +kernel
theorem dX11_noted_17 : decode cX11_noted 17 = .ok (.aload_n 0, 1) := by decide +kernel
theorem dX11_noted_18 : decode cX11_noted 18 = .ok (.getfield 400, 3) := by decide +kernel
theorem dX11_noted_21 : decode cX11_noted 21 = .ok (.imul, 1) := by decide +kernel
theorem dX11_noted_22 : decode cX11_noted 22 = .ok (.iconst 1, 1) := by decide +kernel
theorem dX11_noted_23 : decode cX11_noted 23 = .ok (.iadd, 1) := by decide +kernel
theorem dX11_noted_24 : decode cX11_noted 24 = .ok (.iload_n 2, 1) := by decide +kernel
theorem dX11_noted_25 : decode cX11_noted 25 = .ok (.iastore, 1) := by decide +kernel
theorem dX11_noted_26 : decode cX11_noted 26 = .ok (.aload_n 0, 1) := by decide +kernel
theorem dX11_noted_27 : decode cX11_noted 27 = .ok (.getfield 160, 3) := by decide +kernel
theorem dX11_noted_30 : decode cX11_noted 30 = .ok (.iconst 4, 1) := by decide +kernel
theorem dX11_noted_31 : decode cX11_noted 31 = .ok (.aload_n 0, 1) := by decide +kernel
theorem dX11_noted_32 : decode cX11_noted 32 = .ok (.getfield 400, 3) := by decide +kernel
theorem dX11_noted_35 : decode cX11_noted 35 = .ok (.imul, 1) := by decide +kernel
theorem dX11_noted_36 : decode cX11_noted 36 = .ok (.iconst 2, 1) := by decide +kernel
theorem dX11_noted_37 : decode cX11_noted 37 = .ok (.iadd, 1) := by decide +kernel
theorem dX11_noted_38 : decode cX11_noted 38 = .ok (.iload_n 3, 1) := by decide +kernel
theorem dX11_noted_39 : decode cX11_noted 39 = .ok (.iastore, 1) := by decide +kernel
theorem dX11_noted_40 : decode cX11_noted 40 = .ok (.aload_n 0, 1) := by decide +kernel
theorem dX11_noted_41 : decode cX11_noted 41 = .ok (.getfield 160, 3) := by decide +kernel
theorem dX11_noted_44 : decode cX11_noted 44 = .ok (.iconst 4, 1) := by decide +kernel
theorem dX11_noted_45 : decode cX11_noted 45 = .ok (.aload_n 0, 1) := by decide +kernel
theorem dX11_noted_46 : decode cX11_noted 46 = .ok (.getfield 400, 3) := by decide +kernel
theorem dX11_noted_49 : decode cX11_noted 49 = .ok (.imul, 1) := by decide +kernel
theorem dX11_noted_50 : decode cX11_noted 50 = .ok (.iconst 3, 1) := by decide +kernel
theorem dX11_noted_51 : decode cX11_noted 51 = .ok (.iadd, 1) := by decide +kernel
theorem dX11_noted_52 : decode cX11_noted 52 = .ok (.iload 4, 2) := by decide +kernel
theorem dX11_noted_54 : decode cX11_noted 54 = .ok (.iastore, 1) := by decide +kernel
theorem dX11_noted_55 : decode cX11_noted 55 = .ok (.aload_n 0, 1) := by decide +kernel
theorem dX11_noted_56 : decode cX11_noted 56 = .ok (.dup, 1) := by decide +kernel
theorem dX11_noted_57 : decode cX11_noted 57 = .ok (.getfield 400, 3) := by decide +kernel
theorem dX11_noted_60 : decode cX11_noted 60 = .ok (.iconst 1, 1) := by decide +kernel
theorem dX11_noted_61 : decode cX11_noted 61 = .ok (.iadd, 1) := by decide +kernel
theorem dX11_noted_62 : decode cX11_noted 62 = .ok (.putfield 400, 3) := by decide +kernel
theorem dX11_noted_65 : decode cX11_noted 65 = .ok (.aload_n 0, 1) := by decide +kernel
theorem dX11_noted_66 : decode cX11_noted 66 = .ok (.getfield 400, 3) := by decide +kernel
theorem dX11_noted_69 : decode cX11_noted 69 = .ok (.iconst 1, 1) := by decide +kernel
theorem dX11_noted_70 : decode cX11_noted 70 = .ok (.isub, 1) := by decide +kernel
theorem dX11_noted_71 : decode cX11_noted 71 = .ok (.ireturn, 1) := by decide +kernel
theorem dX11_see_0 : decode cX11_see 0 = .ok (.aload_n 0, 1) := by decide +kernel
theorem dX11_see_1 : decode cX11_see 1 = .ok (.iconst 0, 1) := by decide +kernel
theorem dX11_see_2 : decode cX11_see 2 = .ok (.putfield 193, 3) := by decide +kernel
theorem dX11_see_5 : decode cX11_see 5 = .ok (.aload_n 0, 1) := by decide +kernel
theorem dX11_see_6 : decode cX11_see 6 = .ok (.getfield 400, 3) := by decide +kernel
theorem dX11_see_9 : decode cX11_see 9 = .ok (.bipush 24, 2) := by decide +kernel
theorem dX11_see_11 : decode cX11_see 11 = .ok (.if_icmp .eq 35, 3) := by decide +kernel
theorem dX11_see_14 : decode cX11_see 14 = .ok (.iload_n 1, 1) := by decide +kernel
theorem dX11_see_15 : decode cX11_see 15 = .ok (.iconst 0, 1) := by decide +kernel
theorem dX11_see_16 : decode cX11_see 16 = .ok (.bipush 50, 2) := by decide +kernel
theorem dX11_see_18 : decode cX11_see 18 = .ok (.invokestatic 238, 3) := by decide +kernel
theorem dX11_see_21 : decode cX11_see 21 = .ok (.ifCond .eq 25, 3) := by decide +kernel
theorem dX11_see_24 : decode cX11_see 24 = .ok (.iload_n 2, 1) := by decide +kernel
theorem dX11_see_25 : decode cX11_see 25 = .ok (.iconst 1, 1) := by decide +kernel
theorem dX11_see_26 : decode cX11_see 26 = .ok (.sipush 999, 3) := by decide +kernel
theorem dX11_see_29 : decode cX11_see 29 = .ok (.invokestatic 238, 3) := by decide +kernel
theorem dX11_see_32 : decode cX11_see 32 = .ok (.ifCond .eq 14, 3) := by decide +kernel
theorem dX11_see_35 : decode cX11_see 35 = .ok (.iload_n 3, 1) := by decide +kernel
theorem dX11_see_36 : decode cX11_see 36 = .ok (.iconst 0, 1) := by decide +kernel
theorem dX11_see_37 : decode cX11_see 37 = .ok (.sipush 9999, 3) := by decide +kernel
theorem dX11_see_40 : decode cX11_see 40 = .ok (.invokestatic 238, 3) := by decide +kernel
theorem dX11_see_43 : decode cX11_see 43 = .ok (.ifCond .ne 7, 3) := by decide +kernel
theorem dX11_see_46 : decode cX11_see 46 = .ok (.iconst (-1), 1) := by decide +kernel
theorem dX11_see_47 : decode cX11_see 47 = .ok (.goto 20, 3) := by decide +kernel
theorem dX11_see_50 : decode cX11_see 50 = .ok (.aload_n 0, 1) := by decide +kernel
theorem dX11_see_51 : decode cX11_see 51 = .ok (.iload_n 1, 1) := by decide +kernel
theorem dX11_see_52 : decode cX11_see 52 = .ok (.iload_n 2, 1) := by decide +kernel
theorem dX11_see_53 : decode cX11_see 53 = .ok (.iload_n 3, 1) := by decide +kernel
theorem dX11_see_54 : decode cX11_see 54 = .ok (.iload 4, 2) := by decide +kernel
theorem dX11_see_56 : decode cX11_see 56 = .ok (.ifCond .eq 7, 3) := by decide +kernel
theorem dX11_see_59 : decode cX11_see 59 = .ok (.iconst 1, 1) := by decide +kernel
theorem dX11_see_60 : decode cX11_see 60 = .ok (.goto 4, 3) := by decide +kernel
theorem dX11_see_63 : decode cX11_see 63 = .ok (.iconst 0, 1) := by decide +kernel
theorem dX11_see_64 : decode cX11_see 64 = .ok (.invokevirtual 515, 3) := by decide +kernel
theorem dX11_see_67 : decode cX11_see 67 = .ok (.ireturn, 1) := by decide +kernel
theorem dX11_strikes_0 : decode cX11_strikes 0 = .ok (.aload_n 0, 1) := by decide +kernel
theorem dX11_strikes_1 : decode cX11_strikes 1 = .ok (.iconst 0, 1) := by decide +kernel
theorem dX11_strikes_2 : decode cX11_strikes 2 = .ok (.putfield 193, 3) := by decide +kernel
theorem dX11_strikes_5 : decode cX11_strikes 5 = .ok (.aload_n 0, 1) := by decide +kernel
theorem dX11_strikes_6 : decode cX11_strikes 6 = .ok (.getfield 400, 3) := by decide +kernel
theorem dX11_strikes_9 : decode cX11_strikes 9 = .ok (.bipush 24, 2) := by decide +kernel
theorem dX11_strikes_11 : decode cX11_strikes 11 = .ok (.if_icmp .eq 15, 3) := by decide +kernel
theorem dX11_strikes_14 : decode cX11_strikes 14 = .ok (.iload_n 1, 1) := by decide +kernel
theorem dX11_strikes_15 : decode cX11_strikes 15 = .ok (.ifCond .lt 11, 3) := by decide +kernel
theorem dX11_strikes_18 : decode cX11_strikes 18 = .ok (.iload_n 1, 1) := by decide +kernel
theorem dX11_strikes_19 : decode cX11_strikes 19 = .ok (.aload_n 0, 1) := by decide +kernel
theorem dX11_strikes_20 : decode cX11_strikes 20 = .ok (.getfield 400, 3) := by decide +kernel
theorem dX11_strikes_23 : decode cX11_strikes 23 = .ok (.if_icmp .lt 7, 3) := by decide +kernel
theorem dX11_strikes_26 : decode cX11_strikes 26 = .ok (.iconst (-1), 1) := by decide +kernel
theorem dX11_strikes_27 : decode cX11_strikes 27 = .ok (.goto 11, 3) := by decide +kernel
theorem dX11_strikes_30 : decode cX11_strikes 30 = .ok (.aload_n 0, 1) := by decide +kernel
theorem dX11_strikes_31 : decode cX11_strikes 31 = .ok (.iconst (-1), 1) := by decide +kernel
theorem dX11_strikes_32 : decode cX11_strikes 32 = .ok (.iload_n 1, 1) := by decide +kernel
theorem dX11_strikes_33 : decode cX11_strikes 33 = .ok (.iconst 0, 1) := by decide +kernel
theorem dX11_strikes_34 : decode cX11_strikes 34 = .ok (.iconst 0, 1) := by decide +kernel
theorem dX11_strikes_35 : decode cX11_strikes 35 = .ok (.invokevirtual 515, 3) := by decide +kernel
theorem dX11_strikes_38 : decode cX11_strikes 38 = .ok (.ireturn, 1) := by decide +kernel
theorem dX11_known_0 : decode cX11_known 0 = .ok (.aload_n 0, 1) := by decide +kernel
theorem dX11_known_1 : decode cX11_known 1 = .ok (.iconst 0, 1) := by decide +kernel
theorem dX11_known_2 : decode cX11_known 2 = .ok (.putfield 193, 3) := by decide +kernel
theorem dX11_known_5 : decode cX11_known 5 = .ok (.iload_n 1, 1) := by decide +kernel
theorem dX11_known_6 : decode cX11_known 6 = .ok (.iconst (-1), 1) := by decide +kernel
theorem dX11_known_7 : decode cX11_known 7 = .ok (.aload_n 0, 1) := by decide +kernel
theorem dX11_known_8 : decode cX11_known 8 = .ok (.getfield 400, 3) := by decide +kernel
theorem dX11_known_11 : decode cX11_known 11 = .ok (.invokestatic 238, 3) := by decide +kernel
theorem dX11_known_14 : decode cX11_known 14 = .ok (.ifCond .ne 5, 3) := by decide +kernel
theorem dX11_known_17 : decode cX11_known 17 = .ok (.iconst 0, 1) := by decide +kernel
theorem dX11_known_18 : decode cX11_known 18 = .ok (.ireturn, 1) := by decide +kernel
theorem dX11_known_19 : decode cX11_known 19 = .ok (.aload_n 0, 1) := by decide +kernel
theorem dX11_known_20 : decode cX11_known 20 = .ok (.iload_n 1, 1) := by decide +kernel
theorem dX11_known_21 : decode cX11_known 21 = .ok (.putfield 157, 3) := by decide +kernel
theorem dX11_known_24 : decode cX11_known 24 = .ok (.iconst 1, 1) := by decide +kernel
theorem dX11_known_25 : decode cX11_known 25 = .ok (.ireturn, 1) := by decide +kernel
theorem dX11_knownBy_0 : decode cX11_knownBy 0 = .ok (.aload_n 0, 1) := by decide +kernel
theorem dX11_knownBy_1 : decode cX11_knownBy 1 = .ok (.getfield 157, 3) := by decide +kernel
theorem dX11_knownBy_4 : decode cX11_knownBy 4 = .ok (.ifCond .ge 10, 3) := by decide +kernel
theorem dX11_knownBy_7 : decode cX11_knownBy 7 = .ok (.aload_n 0, 1) := by decide +kernel
theorem dX11_knownBy_8 : decode cX11_knownBy 8 = .ok (.getfield 400, 3) := by decide +kernel
theorem dX11_knownBy_11 : decode cX11_knownBy 11 = .ok (.goto 7, 3) := by decide +kernel
theorem dX11_knownBy_14 : decode cX11_knownBy 14 = .ok (.aload_n 0, 1) := by decide +kernel
theorem dX11_knownBy_15 : decode cX11_knownBy 15 = .ok (.getfield 157, 3) := by decide +kernel
theorem dX11_knownBy_18 : decode cX11_knownBy 18 = .ok (.ireturn, 1) := by decide +kernel
theorem dX11_isSo_0 : decode cX11_isSo 0 = .ok (.iconst 0, 1) := by decide +kernel
theorem dX11_isSo_1 : decode cX11_isSo 1 = .ok (.istore_n 3, 1) := by decide +kernel
theorem dX11_isSo_2 : decode cX11_isSo 2 = .ok (.iload_n 3, 1) := by decide +kernel
theorem dX11_isSo_3 : decode cX11_isSo 3 = .ok (.aload_n 0, 1) := by decide +kernel
theorem dX11_isSo_4 : decode cX11_isSo 4 = .ok (.invokevirtual 519, 3) := by decide +kernel
theorem dX11_isSo_7 : decode cX11_isSo 7 = .ok (.if_icmp .ge 94, 3) := by decide +kernel
theorem dX11_isSo_10 : decode cX11_isSo 10 = .ok (.aload_n 0, 1) := by decide +kernel
theorem dX11_isSo_11 : decode cX11_isSo 11 = .ok (.getfield 163, 3) := by decide +kernel
theorem dX11_isSo_14 : decode cX11_isSo 14 = .ok (.iload_n 3, 1) := by decide +kernel
theorem dX11_isSo_15 : decode cX11_isSo 15 = .ok (.baload, 1) := by decide +kernel
theorem dX11_isSo_16 : decode cX11_isSo 16 = .ok (.ifCond .eq 79, 3) := by decide +kernel
theorem dX11_isSo_19 : decode cX11_isSo 19 = .ok (.aload_n 0, 1) := by decide +kernel
theorem dX11_isSo_20 : decode cX11_isSo 20 = .ok (.getfield 160, 3) := by decide +kernel
theorem dX11_isSo_23 : decode cX11_isSo 23 = .ok (.iconst 4, 1) := by decide +kernel
theorem dX11_isSo_24 : decode cX11_isSo 24 = .ok (.iload_n 3, 1) := by decide +kernel
theorem dX11_isSo_25 : decode cX11_isSo 25 = .ok (.imul, 1) := by decide +kernel
theorem dX11_isSo_26 : decode cX11_isSo 26 = .ok (.iaload, 1) := by decide +kernel
theorem dX11_isSo_27 : decode cX11_isSo 27 = .ok (.iload_n 1, 1) := by decide +kernel
theorem dX11_isSo_28 : decode cX11_isSo 28 = .ok (.if_icmp .eq 6, 3) := by decide +kernel
theorem dX11_isSo_31 : decode cX11_isSo 31 = .ok (.goto 64, 3) := by decide +kernel
theorem dX11_isSo_34 : decode cX11_isSo 34 = .ok (.aload_n 0, 1) := by decide +kernel
theorem dX11_isSo_35 : decode cX11_isSo 35 = .ok (.aload_n 0, 1) := by decide +kernel
theorem dX11_isSo_36 : decode cX11_isSo 36 = .ok (.getfield 160, 3) := by decide +kernel
theorem dX11_isSo_39 : decode cX11_isSo 39 = .ok (.iconst 4, 1) := by decide +kernel
theorem dX11_isSo_40 : decode cX11_isSo 40 = .ok (.iload_n 3, 1) := by decide +kernel
theorem dX11_isSo_41 : decode cX11_isSo 41 = .ok (.imul, 1) := by decide +kernel
theorem dX11_isSo_42 : decode cX11_isSo 42 = .ok (.iconst 1, 1) := by decide +kernel
theorem dX11_isSo_43 : decode cX11_isSo 43 = .ok (.iadd, 1) := by decide +kernel
theorem dX11_isSo_44 : decode cX11_isSo 44 = .ok (.iaload, 1) := by decide +kernel
theorem dX11_isSo_45 : decode cX11_isSo 45 = .ok (.iload_n 2, 1) := by decide +kernel
theorem dX11_isSo_46 : decode cX11_isSo 46 = .ok (.invokevirtual 470, 3) := by decide +kernel
theorem dX11_isSo_49 : decode cX11_isSo 49 = .ok (.aload_n 0, 1) := by decide +kernel
theorem dX11_isSo_50 : decode cX11_isSo 50 = .ok (.getfield 160, 3) := by decide +kernel
theorem dX11_isSo_53 : decode cX11_isSo 53 = .ok (.iconst 4, 1) := by decide +kernel
theorem dX11_isSo_54 : decode cX11_isSo 54 = .ok (.iload_n 3, 1) := by decide +kernel
theorem dX11_isSo_55 : decode cX11_isSo 55 = .ok (.imul, 1) := by decide +kernel
theorem dX11_isSo_56 : decode cX11_isSo 56 = .ok (.iconst 2, 1) := by decide +kernel
theorem dX11_isSo_57 : decode cX11_isSo 57 = .ok (.iadd, 1) := by decide +kernel
theorem dX11_isSo_58 : decode cX11_isSo 58 = .ok (.iaload, 1) := by decide +kernel
theorem dX11_isSo_59 : decode cX11_isSo 59 = .ok (.if_icmp .lt 7, 3) := by decide +kernel
theorem dX11_isSo_62 : decode cX11_isSo 62 = .ok (.iconst 1, 1) := by decide +kernel
theorem dX11_isSo_63 : decode cX11_isSo 63 = .ok (.goto 4, 3) := by decide +kernel
theorem dX11_isSo_66 : decode cX11_isSo 66 = .ok (.iconst 0, 1) := by decide +kernel
theorem dX11_isSo_67 : decode cX11_isSo 67 = .ok (.istore 4, 2) := by decide +kernel
theorem dX11_isSo_69 : decode cX11_isSo 69 = .ok (.iload 4, 2) := by decide +kernel
theorem dX11_isSo_71 : decode cX11_isSo 71 = .ok (.aload_n 0, 1) := by decide +kernel
theorem dX11_isSo_72 : decode cX11_isSo 72 = .ok (.getfield 160, 3) := by decide +kernel
theorem dX11_isSo_75 : decode cX11_isSo 75 = .ok (.iconst 4, 1) := by decide +kernel
theorem dX11_isSo_76 : decode cX11_isSo 76 = .ok (.iload_n 3, 1) := by decide +kernel
theorem dX11_isSo_77 : decode cX11_isSo 77 = .ok (.imul, 1) := by decide +kernel
theorem dX11_isSo_78 : decode cX11_isSo 78 = .ok (.iconst 3, 1) := by decide +kernel
theorem dX11_isSo_79 : decode cX11_isSo 79 = .ok (.iadd, 1) := by decide +kernel
theorem dX11_isSo_80 : decode cX11_isSo 80 = .ok (.iaload, 1) := by decide +kernel
theorem dX11_isSo_81 : decode cX11_isSo 81 = .ok (.iconst 1, 1) := by decide +kernel
theorem dX11_isSo_82 : decode cX11_isSo 82 = .ok (.if_icmp .ne 7, 3) := by decide +kernel
theorem dX11_isSo_85 : decode cX11_isSo 85 = .ok (.iconst 1, 1) := by decide +kernel
theorem dX11_isSo_86 : decode cX11_isSo 86 = .ok (.goto 4, 3) := by decide +kernel
theorem dX11_isSo_89 : decode cX11_isSo 89 = .ok (.iconst 0, 1) := by decide +kernel
theorem dX11_isSo_90 : decode cX11_isSo 90 = .ok (.if_icmp .eq 5, 3) := by decide +kernel
theorem dX11_isSo_93 : decode cX11_isSo 93 = .ok (.iconst 0, 1) := by decide +kernel
theorem dX11_isSo_94 : decode cX11_isSo 94 = .ok (.ireturn, 1) := by decide +kernel
theorem dX11_isSo_95 : decode cX11_isSo 95 = .ok (.iinc 3 1, 3) := by decide +kernel
theorem dX11_isSo_98 : decode cX11_isSo 98 = .ok (.goto (-96), 3) := by decide +kernel
theorem dX11_isSo_101 : decode cX11_isSo 101 = .ok (.iconst 1, 1) := by decide +kernel
theorem dX11_isSo_102 : decode cX11_isSo 102 = .ok (.ireturn, 1) := by decide +kernel
theorem dX11_paintsOne_0 : decode cX11_paintsOne 0 = .ok (.iconst 0, 1) := by decide +kernel
theorem dX11_paintsOne_1 : decode cX11_paintsOne 1 = .ok (.istore_n 2, 1) := by decide +kernel
theorem dX11_paintsOne_2 : decode cX11_paintsOne 2 = .ok (.iload_n 2, 1) := by decide +kernel
theorem dX11_paintsOne_3 : decode cX11_paintsOne 3 = .ok (.bipush 12, 2) := by decide +kernel
theorem dX11_paintsOne_5 : decode cX11_paintsOne 5 = .ok (.if_icmp .ge 28, 3) := by decide +kernel
theorem dX11_paintsOne_8 : decode cX11_paintsOne 8 = .ok (.aload_n 0, 1) := by decide +kernel
theorem dX11_paintsOne_9 : decode cX11_paintsOne 9 = .ok (.getfield 133, 3) := by decide +kernel
theorem dX11_paintsOne_12 : decode cX11_paintsOne 12 = .ok (.bipush 12, 2) := by decide +kernel
theorem dX11_paintsOne_14 : decode cX11_paintsOne 14 = .ok (.iload_n 2, 1) := by decide +kernel
theorem dX11_paintsOne_15 : decode cX11_paintsOne 15 = .ok (.iadd, 1) := by decide +kernel
theorem dX11_paintsOne_16 : decode cX11_paintsOne 16 = .ok (.iload_n 2, 1) := by decide +kernel
theorem dX11_paintsOne_17 : decode cX11_paintsOne 17 = .ok (.iload_n 1, 1) := by decide +kernel
theorem dX11_paintsOne_18 : decode cX11_paintsOne 18 = .ok (.if_icmp .ne 7, 3) := by decide +kernel
theorem dX11_paintsOne_21 : decode cX11_paintsOne 21 = .ok (.iconst 1, 1) := by decide +kernel
theorem dX11_paintsOne_22 : decode cX11_paintsOne 22 = .ok (.goto 4, 3) := by decide +kernel
theorem dX11_paintsOne_25 : decode cX11_paintsOne 25 = .ok (.iconst 0, 1) := by decide +kernel
theorem dX11_paintsOne_26 : decode cX11_paintsOne 26 = .ok (.iastore, 1) := by decide +kernel
theorem dX11_paintsOne_27 : decode cX11_paintsOne 27 = .ok (.iinc 2 1, 3) := by decide +kernel
theorem dX11_paintsOne_30 : decode cX11_paintsOne 30 = .ok (.goto (-28), 3) := by decide +kernel
theorem dX11_paintsOne_33 : decode cX11_paintsOne 33 = .ok (.return_, 1) := by decide +kernel
theorem dX11_paintedBits_0 : decode cX11_paintedBits 0 = .ok (.iconst 0, 1) := by decide +kernel
theorem dX11_paintedBits_1 : decode cX11_paintedBits 1 = .ok (.istore_n 1, 1) := by decide +kernel
theorem dX11_paintedBits_2 : decode cX11_paintedBits 2 = .ok (.iconst 0, 1) := by decide +kernel
theorem dX11_paintedBits_3 : decode cX11_paintedBits 3 = .ok (.istore_n 2, 1) := by decide +kernel
theorem dX11_paintedBits_4 : decode cX11_paintedBits 4 = .ok (.iload_n 2, 1) := by decide +kernel
theorem dX11_paintedBits_5 : decode cX11_paintedBits 5 = .ok (.aload_n 0, 1) := by decide +kernel
theorem dX11_paintedBits_6 : decode cX11_paintedBits 6 = .ok (.invokevirtual 519, 3) := by decide +kernel
theorem dX11_paintedBits_9 : decode cX11_paintedBits 9 = .ok (.if_icmp .ge 16, 3) := by decide +kernel
theorem dX11_paintedBits_12 : decode cX11_paintedBits 12 = .ok (.aload_n 0, 1) := by decide +kernel
theorem dX11_paintedBits_13 : decode cX11_paintedBits 13 = .ok (.getfield 163, 3) := by decide +kernel
theorem dX11_paintedBits_16 : decode cX11_paintedBits 16 = .ok (.iload_n 2, 1) := by decide +kernel
theorem dX11_paintedBits_17 : decode cX11_paintedBits 17 = .ok (.iconst 1, 1) := by decide +kernel
theorem dX11_paintedBits_18 : decode cX11_paintedBits 18 = .ok (.bastore, 1) := by decide +kernel
theorem dX11_paintedBits_19 : decode cX11_paintedBits 19 = .ok (.iinc 2 1, 3) := by decide +kernel
theorem dX11_paintedBits_22 : decode cX11_paintedBits 22 = .ok (.goto (-18), 3) := by decide +kernel
theorem dX11_paintedBits_25 : decode cX11_paintedBits 25 = .ok (.aload_n 0, 1) := by decide +kernel
theorem dX11_paintedBits_26 : decode cX11_paintedBits 26 = .ok (.invokevirtual 519, 3) := by decide +kernel
theorem dX11_paintedBits_29 : decode cX11_paintedBits 29 = .ok (.iconst 1, 1) := by decide +kernel
theorem dX11_paintedBits_30 : decode cX11_paintedBits 30 = .ok (.isub, 1) := by decide +kernel
theorem dX11_paintedBits_31 : decode cX11_paintedBits 31 = .ok (.istore_n 2, 1) := by decide +kernel
theorem dX11_paintedBits_32 : decode cX11_paintedBits 32 = .ok (.iload_n 2, 1) := by decide +kernel
theorem dX11_paintedBits_33 : decode cX11_paintedBits 33 = .ok (.ifCond .lt 45, 3) := by decide +kernel
theorem dX11_paintedBits_36 : decode cX11_paintedBits 36 = .ok (.aload_n 0, 1) := by decide +kernel
theorem dX11_paintedBits_37 : decode cX11_paintedBits 37 = .ok (.getfield 163, 3) := by decide +kernel
theorem dX11_paintedBits_40 : decode cX11_paintedBits 40 = .ok (.iload_n 2, 1) := by decide +kernel
theorem dX11_paintedBits_41 : decode cX11_paintedBits 41 = .ok (.baload, 1) := by decide +kernel
theorem dX11_paintedBits_42 : decode cX11_paintedBits 42 = .ok (.ifCond .eq 30, 3) := by decide +kernel
theorem dX11_paintedBits_45 : decode cX11_paintedBits 45 = .ok (.aload_n 0, 1) := by decide +kernel
theorem dX11_paintedBits_46 : decode cX11_paintedBits 46 = .ok (.getfield 160, 3) := by decide +kernel
theorem dX11_paintedBits_49 : decode cX11_paintedBits 49 = .ok (.iconst 4, 1) := by decide +kernel
theorem dX11_paintedBits_50 : decode cX11_paintedBits 50 = .ok (.iload_n 2, 1) := by decide +kernel
theorem dX11_paintedBits_51 : decode cX11_paintedBits 51 = .ok (.imul, 1) := by decide +kernel
theorem dX11_paintedBits_52 : decode cX11_paintedBits 52 = .ok (.iaload, 1) := by decide +kernel
theorem dX11_paintedBits_53 : decode cX11_paintedBits 53 = .ok (.ifCond .ge 19, 3) := by decide +kernel
theorem dX11_paintedBits_56 : decode cX11_paintedBits 56 = .ok (.aload_n 0, 1) := by decide +kernel
theorem dX11_paintedBits_57 : decode cX11_paintedBits 57 = .ok (.getfield 163, 3) := by decide +kernel
theorem dX11_paintedBits_60 : decode cX11_paintedBits 60 = .ok (.aload_n 0, 1) := by decide +kernel
theorem dX11_paintedBits_61 : decode cX11_paintedBits 61 = .ok (.getfield 160, 3) := by decide +kernel
theorem dX11_paintedBits_64 : decode cX11_paintedBits 64 = .ok (.iconst 4, 1) := by decide +kernel
theorem dX11_paintedBits_65 : decode cX11_paintedBits 65 = .ok (.iload_n 2, 1) := by decide +kernel
theorem dX11_paintedBits_66 : decode cX11_paintedBits 66 = .ok (.imul, 1) := by decide +kernel
theorem dX11_paintedBits_67 : decode cX11_paintedBits 67 = .ok (.iconst 1, 1) := by decide +kernel
theorem dX11_paintedBits_68 : decode cX11_paintedBits 68 = .ok (.iadd, 1) := by decide +kernel
theorem dX11_paintedBits_69 : decode cX11_paintedBits 69 = .ok (.iaload, 1) := by decide +kernel
theorem dX11_paintedBits_70 : decode cX11_paintedBits 70 = .ok (.iconst 0, 1) := by decide +kernel
theorem dX11_paintedBits_71 : decode cX11_paintedBits 71 = .ok (.bastore, 1) := by decide +kernel
theorem dX11_paintedBits_72 : decode cX11_paintedBits 72 = .ok (.iinc 2 (-1), 3) := by decide +kernel
theorem dX11_paintedBits_75 : decode cX11_paintedBits 75 = .ok (.goto (-43), 3) := by decide +kernel
theorem dX11_paintedBits_78 : decode cX11_paintedBits 78 = .ok (.iconst 0, 1) := by decide +kernel
theorem dX11_paintedBits_79 : decode cX11_paintedBits 79 = .ok (.istore_n 2, 1) := by decide +kernel
theorem dX11_paintedBits_80 : decode cX11_paintedBits 80 = .ok (.iload_n 2, 1) := by decide +kernel
theorem dX11_paintedBits_81 : decode cX11_paintedBits 81 = .ok (.aload_n 0, 1) := by decide +kernel
theorem dX11_paintedBits_82 : decode cX11_paintedBits 82 = .ok (.invokevirtual 519, 3) := by decide +kernel
theorem dX11_paintedBits_85 : decode cX11_paintedBits 85 = .ok (.if_icmp .ge 43, 3) := by decide +kernel
theorem dX11_paintedBits_88 : decode cX11_paintedBits 88 = .ok (.aload_n 0, 1) := by decide +kernel
theorem dX11_paintedBits_89 : decode cX11_paintedBits 89 = .ok (.getfield 163, 3) := by decide +kernel
theorem dX11_paintedBits_92 : decode cX11_paintedBits 92 = .ok (.iload_n 2, 1) := by decide +kernel
theorem dX11_paintedBits_93 : decode cX11_paintedBits 93 = .ok (.baload, 1) := by decide +kernel
theorem dX11_paintedBits_94 : decode cX11_paintedBits 94 = .ok (.ifCond .eq 26, 3) := by decide +kernel
theorem dX11_paintedBits_97 : decode cX11_paintedBits 97 = .ok (.aload_n 0, 1) := by decide +kernel
theorem dX11_paintedBits_98 : decode cX11_paintedBits 98 = .ok (.getfield 160, 3) := by decide +kernel
theorem dX11_paintedBits_101 : decode cX11_paintedBits 101 = .ok (.iconst 4, 1) := by decide +kernel
theorem dX11_paintedBits_102 : decode cX11_paintedBits 102 = .ok (.iload_n 2, 1) := by decide +kernel
theorem dX11_paintedBits_103 : decode cX11_paintedBits 103 = .ok (.imul, 1) := by decide +kernel
theorem dX11_paintedBits_104 : decode cX11_paintedBits 104 = .ok (.iaload, 1) := by decide +kernel
theorem dX11_paintedBits_105 : decode cX11_paintedBits 105 = .ok (.iload_n 1, 1) := by decide +kernel
theorem dX11_paintedBits_106 : decode cX11_paintedBits 106 = .ok (.if_icmp .le 14, 3) := by decide +kernel
theorem dX11_paintedBits_109 : decode cX11_paintedBits 109 = .ok (.aload_n 0, 1) := by decide +kernel
theorem dX11_paintedBits_110 : decode cX11_paintedBits 110 = .ok (.getfield 160, 3) := by decide +kernel
theorem dX11_paintedBits_113 : decode cX11_paintedBits 113 = .ok (.iconst 4, 1) := by decide +kernel
theorem dX11_paintedBits_114 : decode cX11_paintedBits 114 = .ok (.iload_n 2, 1) := by decide +kernel
theorem dX11_paintedBits_115 : decode cX11_paintedBits 115 = .ok (.imul, 1) := by decide +kernel
theorem dX11_paintedBits_116 : decode cX11_paintedBits 116 = .ok (.iaload, 1) := by decide +kernel
theorem dX11_paintedBits_117 : decode cX11_paintedBits 117 = .ok (.goto 4, 3) := by decide +kernel
theorem dX11_paintedBits_120 : decode cX11_paintedBits 120 = .ok (.iload_n 1, 1) := by decide +kernel
theorem dX11_paintedBits_121 : decode cX11_paintedBits 121 = .ok (.istore_n 1, 1) := by decide +kernel
theorem dX11_paintedBits_122 : decode cX11_paintedBits 122 = .ok (.iinc 2 1, 3) := by decide +kernel
theorem dX11_paintedBits_125 : decode cX11_paintedBits 125 = .ok (.goto (-45), 3) := by decide +kernel
theorem dX11_paintedBits_128 : decode cX11_paintedBits 128 = .ok (.iconst 0, 1) := by decide +kernel
theorem dX11_paintedBits_129 : decode cX11_paintedBits 129 = .ok (.istore_n 2, 1) := by decide +kernel
theorem dX11_paintedBits_130 : decode cX11_paintedBits 130 = .ok (.aload_n 0, 1) := by decide +kernel
theorem dX11_paintedBits_131 : decode cX11_paintedBits 131 = .ok (.invokevirtual 397, 3) := by decide +kernel
theorem dX11_paintedBits_134 : decode cX11_paintedBits 134 = .ok (.iconst 0, 1) := by decide +kernel
theorem dX11_paintedBits_135 : decode cX11_paintedBits 135 = .ok (.istore_n 3, 1) := by decide +kernel
theorem dX11_paintedBits_136 : decode cX11_paintedBits 136 = .ok (.iload_n 3, 1) := by decide +kernel
theorem dX11_paintedBits_137 : decode cX11_paintedBits 137 = .ok (.aload_n 0, 1) := by decide +kernel
theorem dX11_paintedBits_138 : decode cX11_paintedBits 138 = .ok (.getfield 273, 3) := by decide +kernel
theorem dX11_paintedBits_141 : decode cX11_paintedBits 141 = .ok (.if_icmp .gt 96, 3) := by decide +kernel
theorem dX11_paintedBits_144 : decode cX11_paintedBits 144 = .ok (.aload_n 0, 1) := by decide +kernel
theorem dX11_paintedBits_145 : decode cX11_paintedBits 145 = .ok (.iconst 1, 1) := by decide +kernel
theorem dX11_paintedBits_146 : decode cX11_paintedBits 146 = .ok (.invokevirtual 390, 3) := by decide +kernel
theorem dX11_paintedBits_149 : decode cX11_paintedBits 149 = .ok (.aload_n 0, 1) := by decide +kernel
theorem dX11_paintedBits_150 : decode cX11_paintedBits 150 = .ok (.iload_n 3, 1) := by decide +kernel
theorem dX11_paintedBits_151 : decode cX11_paintedBits 151 = .ok (.aload_n 0, 1) := by decide +kernel
theorem dX11_paintedBits_152 : decode cX11_paintedBits 152 = .ok (.getfield 273, 3) := by decide +kernel
theorem dX11_paintedBits_155 : decode cX11_paintedBits 155 = .ok (.if_icmp .ne 7, 3) := by decide +kernel
theorem dX11_paintedBits_158 : decode cX11_paintedBits 158 = .ok (.iconst (-1), 1) := by decide +kernel
theorem dX11_paintedBits_159 : decode cX11_paintedBits 159 = .ok (.goto 4, 3) := by decide +kernel
theorem dX11_paintedBits_162 : decode cX11_paintedBits 162 = .ok (.iload_n 3, 1) := by decide +kernel
theorem dX11_paintedBits_163 : decode cX11_paintedBits 163 = .ok (.invokevirtual 522, 3) := by decide +kernel
theorem dX11_paintedBits_166 : decode cX11_paintedBits 166 = .ok (.aload_n 0, 1) := by decide +kernel
theorem dX11_paintedBits_167 : decode cX11_paintedBits 167 = .ok (.iconst 0, 1) := by decide +kernel
theorem dX11_paintedBits_168 : decode cX11_paintedBits 168 = .ok (.aload_n 0, 1) := by decide +kernel
theorem dX11_paintedBits_169 : decode cX11_paintedBits 169 = .ok (.iconst 1, 1) := by decide +kernel
theorem dX11_paintedBits_170 : decode cX11_paintedBits 170 = .ok (.invokevirtual 443, 3) := by decide +kernel
theorem dX11_paintedBits_173 : decode cX11_paintedBits 173 = .ok (.invokevirtual 525, 3) := by decide +kernel
theorem dX11_paintedBits_176 : decode cX11_paintedBits 176 = .ok (.istore 4, 2) := by decide +kernel
theorem dX11_paintedBits_178 : decode cX11_paintedBits 178 = .ok (.iconst 1, 1) := by decide +kernel
theorem dX11_paintedBits_179 : decode cX11_paintedBits 179 = .ok (.istore 5, 2) := by decide +kernel
theorem dX11_paintedBits_181 : decode cX11_paintedBits 181 = .ok (.iload 5, 2) := by decide +kernel
theorem dX11_paintedBits_183 : decode cX11_paintedBits 183 = .ok (.iload_n 1, 1) := by decide +kernel
theorem dX11_paintedBits_184 : decode cX11_paintedBits 184 = .ok (.if_icmp .gt 32, 3) := by decide +kernel
theorem dX11_paintedBits_187 : decode cX11_paintedBits 187 = .ok (.iload 4, 2) := by decide +kernel
theorem dX11_paintedBits_189 : decode cX11_paintedBits 189 = .ok (.ifCond .eq 27, 3) := by decide +kernel
theorem dX11_paintedBits_192 : decode cX11_paintedBits 192 = .ok (.aload_n 0, 1) := by decide +kernel
theorem dX11_paintedBits_193 : decode cX11_paintedBits 193 = .ok (.iconst 1, 1) := by decide +kernel
theorem dX11_paintedBits_194 : decode cX11_paintedBits 194 = .ok (.invokevirtual 479, 3) := by decide +kernel
theorem dX11_paintedBits_197 : decode cX11_paintedBits 197 = .ok (.aload_n 0, 1) := by decide +kernel
theorem dX11_paintedBits_198 : decode cX11_paintedBits 198 = .ok (.iload 5, 2) := by decide +kernel
theorem dX11_paintedBits_200 : decode cX11_paintedBits 200 = .ok (.aload_n 0, 1) := by decide +kernel
theorem dX11_paintedBits_201 : decode cX11_paintedBits 201 = .ok (.iconst 1, 1) := by decide +kernel
theorem dX11_paintedBits_202 : decode cX11_paintedBits 202 = .ok (.invokevirtual 443, 3) := by decide +kernel
theorem dX11_paintedBits_205 : decode cX11_paintedBits 205 = .ok (.invokevirtual 525, 3) := by decide +kernel
theorem dX11_paintedBits_208 : decode cX11_paintedBits 208 = .ok (.istore 4, 2) := by decide +kernel
theorem dX11_paintedBits_210 : decode cX11_paintedBits 210 = .ok (.iinc 5 1, 3) := by decide +kernel
theorem dX11_paintedBits_213 : decode cX11_paintedBits 213 = .ok (.goto (-32), 3) := by decide +kernel
theorem dX11_paintedBits_216 : decode cX11_paintedBits 216 = .ok (.iload_n 2, 1) := by decide +kernel
theorem dX11_paintedBits_217 : decode cX11_paintedBits 217 = .ok (.iload 4, 2) := by decide +kernel
theorem dX11_paintedBits_219 : decode cX11_paintedBits 219 = .ok (.ifCond .eq 9, 3) := by decide +kernel
theorem dX11_paintedBits_222 : decode cX11_paintedBits 222 = .ok (.iconst 1, 1) := by decide +kernel
theorem dX11_paintedBits_223 : decode cX11_paintedBits 223 = .ok (.iload_n 3, 1) := by decide +kernel
theorem dX11_paintedBits_224 : decode cX11_paintedBits 224 = .ok (.ishl, 1) := by decide +kernel
theorem dX11_paintedBits_225 : decode cX11_paintedBits 225 = .ok (.goto 4, 3) := by decide +kernel
theorem dX11_paintedBits_228 : decode cX11_paintedBits 228 = .ok (.iconst 0, 1) := by decide +kernel
theorem dX11_paintedBits_229 : decode cX11_paintedBits 229 = .ok (.ior, 1) := by decide +kernel
theorem dX11_paintedBits_230 : decode cX11_paintedBits 230 = .ok (.istore_n 2, 1) := by decide +kernel
theorem dX11_paintedBits_231 : decode cX11_paintedBits 231 = .ok (.iinc 3 1, 3) := by decide +kernel
theorem dX11_paintedBits_234 : decode cX11_paintedBits 234 = .ok (.goto (-98), 3) := by decide +kernel
theorem dX11_paintedBits_237 : decode cX11_paintedBits 237 = .ok (.iload_n 2, 1) := by decide +kernel
theorem dX11_paintedBits_238 : decode cX11_paintedBits 238 = .ok (.ireturn, 1) := by decide +kernel
theorem dX11_painted_0 : decode cX11_painted 0 = .ok (.aload_n 0, 1) := by decide +kernel
theorem dX11_painted_1 : decode cX11_painted 1 = .ok (.iconst 0, 1) := by decide +kernel
theorem dX11_painted_2 : decode cX11_painted 2 = .ok (.putfield 193, 3) := by decide +kernel
theorem dX11_painted_5 : decode cX11_painted 5 = .ok (.aload_n 0, 1) := by decide +kernel
theorem dX11_painted_6 : decode cX11_painted 6 = .ok (.invokevirtual 528, 3) := by decide +kernel
theorem dX11_painted_9 : decode cX11_painted 9 = .ok (.ireturn, 1) := by decide +kernel
theorem dX11_tells_0 : decode cX11_tells 0 = .ok (.aload_n 0, 1) := by decide +kernel
theorem dX11_tells_1 : decode cX11_tells 1 = .ok (.iconst 0, 1) := by decide +kernel
theorem dX11_tells_2 : decode cX11_tells 2 = .ok (.putfield 193, 3) := by decide +kernel
theorem dX11_tells_5 : decode cX11_tells 5 = .ok (.iload_n 1, 1) := by decide +kernel
theorem dX11_tells_6 : decode cX11_tells 6 = .ok (.iconst 0, 1) := by decide +kernel
theorem dX11_tells_7 : decode cX11_tells 7 = .ok (.iconst 1, 1) := by decide +kernel
theorem dX11_tells_8 : decode cX11_tells 8 = .ok (.invokestatic 238, 3) := by decide +kernel
theorem dX11_tells_11 : decode cX11_tells 11 = .ok (.ifCond .ne 5, 3) := by decide +kernel
theorem dX11_tells_14 : decode cX11_tells 14 = .ok (.iconst (-1), 1) := by decide +kernel
theorem dX11_tells_15 : decode cX11_tells 15 = .ok (.ireturn, 1) := by decide +kernel
theorem dX11_tells_16 : decode cX11_tells 16 = .ok (.aload_n 0, 1) := by decide +kernel
theorem dX11_tells_17 : decode cX11_tells 17 = .ok (.invokevirtual 528, 3) := by decide +kernel
theorem dX11_tells_20 : decode cX11_tells 20 = .ok (.istore_n 2, 1) := by decide +kernel
theorem dX11_tells_21 : decode cX11_tells 21 = .ok (.iconst 0, 1) := by decide +kernel
theorem dX11_tells_22 : decode cX11_tells 22 = .ok (.istore_n 3, 1) := by decide +kernel
theorem dX11_tells_23 : decode cX11_tells 23 = .ok (.iconst 0, 1) := by decide +kernel
theorem dX11_tells_24 : decode cX11_tells 24 = .ok (.istore 4, 2) := by decide +kernel
theorem dX11_tells_26 : decode cX11_tells 26 = .ok (.iload 4, 2) := by decide +kernel
theorem dX11_tells_28 : decode cX11_tells 28 = .ok (.aload_n 0, 1) := by decide +kernel
theorem dX11_tells_29 : decode cX11_tells 29 = .ok (.getfield 273, 3) := by decide +kernel
theorem dX11_tells_32 : decode cX11_tells 32 = .ok (.if_icmp .gt 58, 3) := by decide +kernel
theorem dX11_tells_35 : decode cX11_tells 35 = .ok (.iload_n 2, 1) := by decide +kernel
theorem dX11_tells_36 : decode cX11_tells 36 = .ok (.iload 4, 2) := by decide +kernel
theorem dX11_tells_38 : decode cX11_tells 38 = .ok (.invokestatic 485, 3) := by decide +kernel
theorem dX11_tells_41 : decode cX11_tells 41 = .ok (.ifCond .ne 6, 3) := by decide +kernel
theorem dX11_tells_44 : decode cX11_tells 44 = .ok (.goto 40, 3) := by decide +kernel
theorem dX11_tells_47 : decode cX11_tells 47 = .ok (.aload_n 0, 1) := by decide +kernel
theorem dX11_tells_48 : decode cX11_tells 48 = .ok (.invokevirtual 482, 3) := by decide +kernel
theorem dX11_tells_51 : decode cX11_tells 51 = .ok (.aload_n 0, 1) := by decide +kernel
theorem dX11_tells_52 : decode cX11_tells 52 = .ok (.iload 4, 2) := by decide +kernel
theorem dX11_tells_54 : decode cX11_tells 54 = .ok (.aload_n 0, 1) := by decide +kernel
theorem dX11_tells_55 : decode cX11_tells 55 = .ok (.getfield 273, 3) := by decide +kernel
theorem dX11_tells_58 : decode cX11_tells 58 = .ok (.if_icmp .ne 7, 3) := by decide +kernel
theorem dX11_tells_61 : decode cX11_tells 61 = .ok (.iconst (-1), 1) := by decide +kernel
theorem dX11_tells_62 : decode cX11_tells 62 = .ok (.goto 5, 3) := by decide +kernel
theorem dX11_tells_65 : decode cX11_tells 65 = .ok (.iload 4, 2) := by decide +kernel
theorem dX11_tells_67 : decode cX11_tells 67 = .ok (.invokevirtual 522, 3) := by decide +kernel
theorem dX11_tells_70 : decode cX11_tells 70 = .ok (.aload_n 0, 1) := by decide +kernel
theorem dX11_tells_71 : decode cX11_tells 71 = .ok (.getfield 166, 3) := by decide +kernel
theorem dX11_tells_74 : decode cX11_tells 74 = .ok (.iload_n 3, 1) := by decide +kernel
theorem dX11_tells_75 : decode cX11_tells 75 = .ok (.aload_n 0, 1) := by decide +kernel
theorem dX11_tells_76 : decode cX11_tells 76 = .ok (.iconst 1, 1) := by decide +kernel
theorem dX11_tells_77 : decode cX11_tells 77 = .ok (.invokevirtual 443, 3) := by decide +kernel
theorem dX11_tells_80 : decode cX11_tells 80 = .ok (.iastore, 1) := by decide +kernel
theorem dX11_tells_81 : decode cX11_tells 81 = .ok (.iinc 3 1, 3) := by decide +kernel
theorem dX11_tells_84 : decode cX11_tells 84 = .ok (.iinc 4 1, 3) := by decide +kernel
theorem dX11_tells_87 : decode cX11_tells 87 = .ok (.goto (-61), 3) := by decide +kernel
theorem dX11_tells_90 : decode cX11_tells 90 = .ok (.iload_n 3, 1) := by decide +kernel
theorem dX11_tells_91 : decode cX11_tells 91 = .ok (.ifCond .ne 6, 3) := by decide +kernel
theorem dX11_tells_94 : decode cX11_tells 94 = .ok (.bipush (-2), 2) := by decide +kernel
theorem dX11_tells_96 : decode cX11_tells 96 = .ok (.ireturn, 1) := by decide +kernel
theorem dX11_tells_97 : decode cX11_tells 97 = .ok (.iconst 1, 1) := by decide +kernel
theorem dX11_tells_98 : decode cX11_tells 98 = .ok (.istore 4, 2) := by decide +kernel
theorem dX11_tells_100 : decode cX11_tells 100 = .ok (.iconst 0, 1) := by decide +kernel
theorem dX11_tells_101 : decode cX11_tells 101 = .ok (.istore 5, 2) := by decide +kernel
theorem dX11_tells_103 : decode cX11_tells 103 = .ok (.iconst 1, 1) := by decide +kernel
theorem dX11_tells_104 : decode cX11_tells 104 = .ok (.istore 6, 2) := by decide +kernel
theorem dX11_tells_106 : decode cX11_tells 106 = .ok (.iload 6, 2) := by decide +kernel
theorem dX11_tells_108 : decode cX11_tells 108 = .ok (.sipush 200, 3) := by decide +kernel
theorem dX11_tells_111 : decode cX11_tells 111 = .ok (.if_icmp .gt 120, 3) := by decide +kernel
theorem dX11_tells_114 : decode cX11_tells 114 = .ok (.iconst 0, 1) := by decide +kernel
theorem dX11_tells_115 : decode cX11_tells 115 = .ok (.istore 7, 2) := by decide +kernel
theorem dX11_tells_117 : decode cX11_tells 117 = .ok (.iconst 0, 1) := by decide +kernel
theorem dX11_tells_118 : decode cX11_tells 118 = .ok (.istore 8, 2) := by decide +kernel
theorem dX11_tells_120 : decode cX11_tells 120 = .ok (.iload 8, 2) := by decide +kernel
theorem dX11_tells_122 : decode cX11_tells 122 = .ok (.iload_n 3, 1) := by decide +kernel
theorem dX11_tells_123 : decode cX11_tells 123 = .ok (.if_icmp .ge 84, 3) := by decide +kernel
theorem dX11_tells_126 : decode cX11_tells 126 = .ok (.iconst 1, 1) := by decide +kernel
theorem dX11_tells_127 : decode cX11_tells 127 = .ok (.istore 9, 2) := by decide +kernel
theorem dX11_tells_129 : decode cX11_tells 129 = .ok (.iconst 0, 1) := by decide +kernel
theorem dX11_tells_130 : decode cX11_tells 130 = .ok (.istore 10, 2) := by decide +kernel
theorem dX11_tells_132 : decode cX11_tells 132 = .ok (.iload 10, 2) := by decide +kernel
theorem dX11_tells_134 : decode cX11_tells 134 = .ok (.iload 8, 2) := by decide +kernel
theorem dX11_tells_136 : decode cX11_tells 136 = .ok (.if_icmp .ge 50, 3) := by decide +kernel
theorem dX11_tells_139 : decode cX11_tells 139 = .ok (.iload 9, 2) := by decide +kernel
theorem dX11_tells_141 : decode cX11_tells 141 = .ok (.ifCond .eq 36, 3) := by decide +kernel
theorem dX11_tells_144 : decode cX11_tells 144 = .ok (.aload_n 0, 1) := by decide +kernel
theorem dX11_tells_145 : decode cX11_tells 145 = .ok (.iload 6, 2) := by decide +kernel
theorem dX11_tells_147 : decode cX11_tells 147 = .ok (.aload_n 0, 1) := by decide +kernel
theorem dX11_tells_148 : decode cX11_tells 148 = .ok (.getfield 166, 3) := by decide +kernel
theorem dX11_tells_151 : decode cX11_tells 151 = .ok (.iload 10, 2) := by decide +kernel
theorem dX11_tells_153 : decode cX11_tells 153 = .ok (.iaload, 1) := by decide +kernel
theorem dX11_tells_154 : decode cX11_tells 154 = .ok (.invokevirtual 470, 3) := by decide +kernel
theorem dX11_tells_157 : decode cX11_tells 157 = .ok (.aload_n 0, 1) := by decide +kernel
theorem dX11_tells_158 : decode cX11_tells 158 = .ok (.iload 6, 2) := by decide +kernel
theorem dX11_tells_160 : decode cX11_tells 160 = .ok (.aload_n 0, 1) := by decide +kernel
theorem dX11_tells_161 : decode cX11_tells 161 = .ok (.getfield 166, 3) := by decide +kernel
theorem dX11_tells_164 : decode cX11_tells 164 = .ok (.iload 8, 2) := by decide +kernel
theorem dX11_tells_166 : decode cX11_tells 166 = .ok (.iaload, 1) := by decide +kernel
theorem dX11_tells_167 : decode cX11_tells 167 = .ok (.invokevirtual 470, 3) := by decide +kernel
theorem dX11_tells_170 : decode cX11_tells 170 = .ok (.if_icmp .eq 7, 3) := by decide +kernel
theorem dX11_tells_173 : decode cX11_tells 173 = .ok (.iconst 1, 1) := by decide +kernel
theorem dX11_tells_174 : decode cX11_tells 174 = .ok (.goto 4, 3) := by decide +kernel
theorem dX11_tells_177 : decode cX11_tells 177 = .ok (.iconst 0, 1) := by decide +kernel
theorem dX11_tells_178 : decode cX11_tells 178 = .ok (.istore 9, 2) := by decide +kernel
theorem dX11_tells_180 : decode cX11_tells 180 = .ok (.iinc 10 1, 3) := by decide +kernel
theorem dX11_tells_183 : decode cX11_tells 183 = .ok (.goto (-51), 3) := by decide +kernel
theorem dX11_tells_186 : decode cX11_tells 186 = .ok (.iload 7, 2) := by decide +kernel
theorem dX11_tells_188 : decode cX11_tells 188 = .ok (.iload 9, 2) := by decide +kernel
theorem dX11_tells_190 : decode cX11_tells 190 = .ok (.ifCond .eq 7, 3) := by decide +kernel
theorem dX11_tells_193 : decode cX11_tells 193 = .ok (.iconst 1, 1) := by decide +kernel
theorem dX11_tells_194 : decode cX11_tells 194 = .ok (.goto 4, 3) := by decide +kernel
theorem dX11_tells_197 : decode cX11_tells 197 = .ok (.iconst 0, 1) := by decide +kernel
theorem dX11_tells_198 : decode cX11_tells 198 = .ok (.iadd, 1) := by decide +kernel
theorem dX11_tells_199 : decode cX11_tells 199 = .ok (.istore 7, 2) := by decide +kernel
theorem dX11_tells_201 : decode cX11_tells 201 = .ok (.iinc 8 1, 3) := by decide +kernel
theorem dX11_tells_204 : decode cX11_tells 204 = .ok (.goto (-84), 3) := by decide +kernel
theorem dX11_tells_207 : decode cX11_tells 207 = .ok (.iload 7, 2) := by decide +kernel
theorem dX11_tells_209 : decode cX11_tells 209 = .ok (.iload 5, 2) := by decide +kernel
theorem dX11_tells_211 : decode cX11_tells 211 = .ok (.if_icmp .gt 6, 3) := by decide +kernel
theorem dX11_tells_214 : decode cX11_tells 214 = .ok (.goto 11, 3) := by decide +kernel
theorem dX11_tells_217 : decode cX11_tells 217 = .ok (.iload 6, 2) := by decide +kernel
theorem dX11_tells_219 : decode cX11_tells 219 = .ok (.istore 4, 2) := by decide +kernel
theorem dX11_tells_221 : decode cX11_tells 221 = .ok (.iload 7, 2) := by decide +kernel
theorem dX11_tells_223 : decode cX11_tells 223 = .ok (.istore 5, 2) := by decide +kernel
theorem dX11_tells_225 : decode cX11_tells 225 = .ok (.iinc 6 1, 3) := by decide +kernel
theorem dX11_tells_228 : decode cX11_tells 228 = .ok (.goto (-122), 3) := by decide +kernel
theorem dX11_tells_231 : decode cX11_tells 231 = .ok (.iload_n 1, 1) := by decide +kernel
theorem dX11_tells_232 : decode cX11_tells 232 = .ok (.ifCond .ne 8, 3) := by decide +kernel
theorem dX11_tells_235 : decode cX11_tells 235 = .ok (.iload 4, 2) := by decide +kernel
theorem dX11_tells_237 : decode cX11_tells 237 = .ok (.goto 5, 3) := by decide +kernel
theorem dX11_tells_240 : decode cX11_tells 240 = .ok (.iload 5, 2) := by decide +kernel
theorem dX11_tells_242 : decode cX11_tells 242 = .ok (.ireturn, 1) := by decide +kernel
theorem dX11_layWar_0 : decode cX11_layWar 0 = .ok (.iconst 0, 1) := by decide +kernel
theorem dX11_layWar_1 : decode cX11_layWar 1 = .ok (.istore_n 2, 1) := by decide +kernel
theorem dX11_layWar_2 : decode cX11_layWar 2 = .ok (.iload_n 2, 1) := by decide +kernel
theorem dX11_layWar_3 : decode cX11_layWar 3 = .ok (.iconst 4, 1) := by decide +kernel
theorem dX11_layWar_4 : decode cX11_layWar 4 = .ok (.if_icmp .ge 188, 3) := by decide +kernel
theorem dX11_layWar_7 : decode cX11_layWar 7 = .ok (.aload_n 0, 1) := by decide +kernel
theorem dX11_layWar_8 : decode cX11_layWar 8 = .ok (.invokevirtual 482, 3) := by decide +kernel
theorem dX11_layWar_11 : decode cX11_layWar 11 = .ok (.aload_n 0, 1) := by decide +kernel
theorem dX11_layWar_12 : decode cX11_layWar 12 = .ok (.getfield 169, 3) := by decide +kernel
theorem dX11_layWar_15 : decode cX11_layWar 15 = .ok (.iload_n 2, 1) := by decide +kernel
theorem dX11_layWar_16 : decode cX11_layWar 16 = .ok (.iconst 0, 1) := by decide +kernel
theorem dX11_layWar_17 : decode cX11_layWar 17 = .ok (.iastore, 1) := by decide +kernel
theorem dX11_layWar_18 : decode cX11_layWar 18 = .ok (.aload_n 0, 1) := by decide +kernel
theorem dX11_layWar_19 : decode cX11_layWar 19 = .ok (.getfield 172, 3) := by decide +kernel
theorem dX11_layWar_22 : decode cX11_layWar 22 = .ok (.iload_n 2, 1) := by decide +kernel
theorem dX11_layWar_23 : decode cX11_layWar 23 = .ok (.iconst 0, 1) := by decide +kernel
theorem dX11_layWar_24 : decode cX11_layWar 24 = .ok (.iastore, 1) := by decide +kernel
theorem dX11_layWar_25 : decode cX11_layWar 25 = .ok (.iconst 0, 1) := by decide +kernel
theorem dX11_layWar_26 : decode cX11_layWar 26 = .ok (.istore_n 3, 1) := by decide +kernel
theorem dX11_layWar_27 : decode cX11_layWar 27 = .ok (.iload_n 3, 1) := by decide +kernel
theorem dX11_layWar_28 : decode cX11_layWar 28 = .ok (.aload_n 0, 1) := by decide +kernel
theorem dX11_layWar_29 : decode cX11_layWar 29 = .ok (.getfield 106, 3) := by decide +kernel
theorem dX11_layWar_32 : decode cX11_layWar 32 = .ok (.iconst 1, 1) := by decide +kernel
theorem dX11_layWar_33 : decode cX11_layWar 33 = .ok (.iaload, 1) := by decide +kernel
theorem dX11_layWar_34 : decode cX11_layWar 34 = .ok (.if_icmp .ge 117, 3) := by decide +kernel
theorem dX11_layWar_37 : decode cX11_layWar 37 = .ok (.aload_n 0, 1) := by decide +kernel
theorem dX11_layWar_38 : decode cX11_layWar 38 = .ok (.getfield 30, 3) := by decide +kernel
theorem dX11_layWar_41 : decode cX11_layWar 41 = .ok (.aload_n 0, 1) := by decide +kernel
theorem dX11_layWar_42 : decode cX11_layWar 42 = .ok (.getfield 109, 3) := by decide +kernel
theorem dX11_layWar_45 : decode cX11_layWar 45 = .ok (.iload_n 3, 1) := by decide +kernel
theorem dX11_layWar_46 : decode cX11_layWar 46 = .ok (.iaload, 1) := by decide +kernel
theorem dX11_layWar_47 : decode cX11_layWar 47 = .ok (.iaload, 1) := by decide +kernel
theorem dX11_layWar_48 : decode cX11_layWar 48 = .ok (.ifCond .ne 7, 3) := by decide +kernel
theorem dX11_layWar_51 : decode cX11_layWar 51 = .ok (.iconst 1, 1) := by decide +kernel
theorem dX11_layWar_52 : decode cX11_layWar 52 = .ok (.goto 4, 3) := by decide +kernel
theorem dX11_layWar_55 : decode cX11_layWar 55 = .ok (.iconst 0, 1) := by decide +kernel
theorem dX11_layWar_56 : decode cX11_layWar 56 = .ok (.istore 4, 2) := by decide +kernel
theorem dX11_layWar_58 : decode cX11_layWar 58 = .ok (.aload_n 0, 1) := by decide +kernel
theorem dX11_layWar_59 : decode cX11_layWar 59 = .ok (.iconst 0, 1) := by decide +kernel
theorem dX11_layWar_60 : decode cX11_layWar 60 = .ok (.iload_n 3, 1) := by decide +kernel
theorem dX11_layWar_61 : decode cX11_layWar 61 = .ok (.invokevirtual 418, 3) := by decide +kernel
theorem dX11_layWar_64 : decode cX11_layWar 64 = .ok (.ifCond .eq 81, 3) := by decide +kernel
theorem dX11_layWar_67 : decode cX11_layWar 67 = .ok (.iload 4, 2) := by decide +kernel
theorem dX11_layWar_69 : decode cX11_layWar 69 = .ok (.ifCond .eq 9, 3) := by decide +kernel
theorem dX11_layWar_72 : decode cX11_layWar 72 = .ok (.iload_n 2, 1) := by decide +kernel
theorem dX11_layWar_73 : decode cX11_layWar 73 = .ok (.iconst 2, 1) := by decide +kernel
theorem dX11_layWar_74 : decode cX11_layWar 74 = .ok (.idiv, 1) := by decide +kernel
theorem dX11_layWar_75 : decode cX11_layWar 75 = .ok (.goto 6, 3) := by decide +kernel
theorem dX11_layWar_78 : decode cX11_layWar 78 = .ok (.iload_n 2, 1) := by decide +kernel
theorem dX11_layWar_79 : decode cX11_layWar 79 = .ok (.iconst 2, 1) := by decide +kernel
theorem dX11_layWar_80 : decode cX11_layWar 80 = .ok (.irem, 1) := by decide +kernel
theorem dX11_layWar_81 : decode cX11_layWar 81 = .ok (.ifCond .ne 6, 3) := by decide +kernel
theorem dX11_layWar_84 : decode cX11_layWar 84 = .ok (.goto 61, 3) := by decide +kernel
theorem dX11_layWar_87 : decode cX11_layWar 87 = .ok (.aload_n 0, 1) := by decide +kernel
theorem dX11_layWar_88 : decode cX11_layWar 88 = .ok (.getfield 127, 3) := by decide +kernel
theorem dX11_layWar_91 : decode cX11_layWar 91 = .ok (.bipush 12, 2) := by decide +kernel
theorem dX11_layWar_93 : decode cX11_layWar 93 = .ok (.iload_n 3, 1) := by decide +kernel
theorem dX11_layWar_94 : decode cX11_layWar 94 = .ok (.iadd, 1) := by decide +kernel
theorem dX11_layWar_95 : decode cX11_layWar 95 = .ok (.iconst 2, 1) := by decide +kernel
theorem dX11_layWar_96 : decode cX11_layWar 96 = .ok (.iastore, 1) := by decide +kernel
theorem dX11_layWar_97 : decode cX11_layWar 97 = .ok (.aload_n 0, 1) := by decide +kernel
theorem dX11_layWar_98 : decode cX11_layWar 98 = .ok (.getfield 169, 3) := by decide +kernel
theorem dX11_layWar_101 : decode cX11_layWar 101 = .ok (.iload_n 2, 1) := by decide +kernel
theorem dX11_layWar_102 : decode cX11_layWar 102 = .ok (.dup2, 1) := by decide +kernel
theorem dX11_layWar_103 : decode cX11_layWar 103 = .ok (.iaload, 1) := by decide +kernel
theorem dX11_layWar_104 : decode cX11_layWar 104 = .ok (.iload 4, 2) := by decide +kernel
theorem dX11_layWar_106 : decode cX11_layWar 106 = .ok (.ifCond .eq 12, 3) := by decide +kernel
theorem dX11_layWar_109 : decode cX11_layWar 109 = .ok (.aload_n 0, 1) := by decide +kernel
theorem dX11_layWar_110 : decode cX11_layWar 110 = .ok (.getfield 121, 3) := by decide +kernel
theorem dX11_layWar_113 : decode cX11_layWar 113 = .ok (.iload_n 3, 1) := by decide +kernel
theorem dX11_layWar_114 : decode cX11_layWar 114 = .ok (.iaload, 1) := by decide +kernel
theorem dX11_layWar_115 : decode cX11_layWar 115 = .ok (.goto 4, 3) := by decide +kernel
theorem dX11_layWar_118 : decode cX11_layWar 118 = .ok (.iconst 0, 1) := by decide +kernel
theorem dX11_layWar_119 : decode cX11_layWar 119 = .ok (.iadd, 1) := by decide +kernel
theorem dX11_layWar_120 : decode cX11_layWar 120 = .ok (.iastore, 1) := by decide +kernel
theorem dX11_layWar_121 : decode cX11_layWar 121 = .ok (.aload_n 0, 1) := by decide +kernel
theorem dX11_layWar_122 : decode cX11_layWar 122 = .ok (.getfield 172, 3) := by decide +kernel
theorem dX11_layWar_125 : decode cX11_layWar 125 = .ok (.iload_n 2, 1) := by decide +kernel
theorem dX11_layWar_126 : decode cX11_layWar 126 = .ok (.dup2, 1) := by decide +kernel
theorem dX11_layWar_127 : decode cX11_layWar 127 = .ok (.iaload, 1) := by decide +kernel
theorem dX11_layWar_128 : decode cX11_layWar 128 = .ok (.iload 4, 2) := by decide +kernel
theorem dX11_layWar_130 : decode cX11_layWar 130 = .ok (.ifCond .eq 7, 3) := by decide +kernel
theorem dX11_layWar_133 : decode cX11_layWar 133 = .ok (.iconst 0, 1) := by decide +kernel
theorem dX11_layWar_134 : decode cX11_layWar 134 = .ok (.goto 9, 3) := by decide +kernel
theorem dX11_layWar_137 : decode cX11_layWar 137 = .ok (.aload_n 0, 1) := by decide +kernel
theorem dX11_layWar_138 : decode cX11_layWar 138 = .ok (.getfield 121, 3) := by decide +kernel
theorem dX11_layWar_141 : decode cX11_layWar 141 = .ok (.iload_n 3, 1) := by decide +kernel
theorem dX11_layWar_142 : decode cX11_layWar 142 = .ok (.iaload, 1) := by decide +kernel
theorem dX11_layWar_143 : decode cX11_layWar 143 = .ok (.iadd, 1) := by decide +kernel
theorem dX11_layWar_144 : decode cX11_layWar 144 = .ok (.iastore, 1) := by decide +kernel
theorem dX11_layWar_145 : decode cX11_layWar 145 = .ok (.iinc 3 1, 3) := by decide +kernel
theorem dX11_layWar_148 : decode cX11_layWar 148 = .ok (.goto (-121), 3) := by decide +kernel
theorem dX11_layWar_151 : decode cX11_layWar 151 = .ok (.aload_n 0, 1) := by decide +kernel
theorem dX11_layWar_152 : decode cX11_layWar 152 = .ok (.iconst 1, 1) := by decide +kernel
theorem dX11_layWar_153 : decode cX11_layWar 153 = .ok (.invokevirtual 443, 3) := by decide +kernel
theorem dX11_layWar_156 : decode cX11_layWar 156 = .ok (.iconst 1, 1) := by decide +kernel
theorem dX11_layWar_157 : decode cX11_layWar 157 = .ok (.if_icmp .lt 7, 3) := by decide +kernel
theorem dX11_layWar_160 : decode cX11_layWar 160 = .ok (.iload_n 1, 1) := by decide +kernel
theorem dX11_layWar_161 : decode cX11_layWar 161 = .ok (.goto 4, 3) := by decide +kernel
theorem dX11_layWar_164 : decode cX11_layWar 164 = .ok (.iconst 0, 1) := by decide +kernel
theorem dX11_layWar_165 : decode cX11_layWar 165 = .ok (.istore_n 3, 1) := by decide +kernel
theorem dX11_layWar_166 : decode cX11_layWar 166 = .ok (.aload_n 0, 1) := by decide +kernel
theorem dX11_layWar_167 : decode cX11_layWar 167 = .ok (.getfield 169, 3) := by decide +kernel
theorem dX11_layWar_170 : decode cX11_layWar 170 = .ok (.iload_n 2, 1) := by decide +kernel
theorem dX11_layWar_171 : decode cX11_layWar 171 = .ok (.dup2, 1) := by decide +kernel
theorem dX11_layWar_172 : decode cX11_layWar 172 = .ok (.iaload, 1) := by decide +kernel
theorem dX11_layWar_173 : decode cX11_layWar 173 = .ok (.iload_n 3, 1) := by decide +kernel
theorem dX11_layWar_174 : decode cX11_layWar 174 = .ok (.iadd, 1) := by decide +kernel
theorem dX11_layWar_175 : decode cX11_layWar 175 = .ok (.iastore, 1) := by decide +kernel
theorem dX11_layWar_176 : decode cX11_layWar 176 = .ok (.aload_n 0, 1) := by decide +kernel
theorem dX11_layWar_177 : decode cX11_layWar 177 = .ok (.getfield 172, 3) := by decide +kernel
theorem dX11_layWar_180 : decode cX11_layWar 180 = .ok (.iload_n 2, 1) := by decide +kernel
theorem dX11_layWar_181 : decode cX11_layWar 181 = .ok (.dup2, 1) := by decide +kernel
theorem dX11_layWar_182 : decode cX11_layWar 182 = .ok (.iaload, 1) := by decide +kernel
theorem dX11_layWar_183 : decode cX11_layWar 183 = .ok (.iload_n 3, 1) := by decide +kernel
theorem dX11_layWar_184 : decode cX11_layWar 184 = .ok (.iadd, 1) := by decide +kernel
theorem dX11_layWar_185 : decode cX11_layWar 185 = .ok (.iastore, 1) := by decide +kernel
theorem dX11_layWar_186 : decode cX11_layWar 186 = .ok (.iinc 2 1, 3) := by decide +kernel
theorem dX11_layWar_189 : decode cX11_layWar 189 = .ok (.goto (-187), 3) := by decide +kernel
theorem dX11_layWar_192 : decode cX11_layWar 192 = .ok (.return_, 1) := by decide +kernel
theorem dX11_restAt_0 : decode cX11_restAt 0 = .ok (.aload_n 0, 1) := by decide +kernel
theorem dX11_restAt_1 : decode cX11_restAt 1 = .ok (.iload_n 1, 1) := by decide +kernel
theorem dX11_restAt_2 : decode cX11_restAt 2 = .ok (.invokevirtual 531, 3) := by decide +kernel
theorem dX11_restAt_5 : decode cX11_restAt 5 = .ok (.iconst 0, 1) := by decide +kernel
theorem dX11_restAt_6 : decode cX11_restAt 6 = .ok (.istore_n 3, 1) := by decide +kernel
theorem dX11_restAt_7 : decode cX11_restAt 7 = .ok (.iconst 0, 1) := by decide +kernel
theorem dX11_restAt_8 : decode cX11_restAt 8 = .ok (.istore 4, 2) := by decide +kernel
theorem dX11_restAt_10 : decode cX11_restAt 10 = .ok (.iload 4, 2) := by decide +kernel
theorem dX11_restAt_12 : decode cX11_restAt 12 = .ok (.iconst 4, 1) := by decide +kernel
theorem dX11_restAt_13 : decode cX11_restAt 13 = .ok (.if_icmp .ge 87, 3) := by decide +kernel
theorem dX11_restAt_16 : decode cX11_restAt 16 = .ok (.aload_n 0, 1) := by decide +kernel
theorem dX11_restAt_17 : decode cX11_restAt 17 = .ok (.getfield 169, 3) := by decide +kernel
theorem dX11_restAt_20 : decode cX11_restAt 20 = .ok (.iload 4, 2) := by decide +kernel
theorem dX11_restAt_22 : decode cX11_restAt 22 = .ok (.iaload, 1) := by decide +kernel
theorem dX11_restAt_23 : decode cX11_restAt 23 = .ok (.aload_n 0, 1) := by decide +kernel
theorem dX11_restAt_24 : decode cX11_restAt 24 = .ok (.getfield 169, 3) := by decide +kernel
theorem dX11_restAt_27 : decode cX11_restAt 27 = .ok (.iload 4, 2) := by decide +kernel
theorem dX11_restAt_29 : decode cX11_restAt 29 = .ok (.iconst 2, 1) := by decide +kernel
theorem dX11_restAt_30 : decode cX11_restAt 30 = .ok (.iadd, 1) := by decide +kernel
theorem dX11_restAt_31 : decode cX11_restAt 31 = .ok (.iconst 4, 1) := by decide +kernel
theorem dX11_restAt_32 : decode cX11_restAt 32 = .ok (.irem, 1) := by decide +kernel
theorem dX11_restAt_33 : decode cX11_restAt 33 = .ok (.iaload, 1) := by decide +kernel
theorem dX11_restAt_34 : decode cX11_restAt 34 = .ok (.if_icmp .lt 60, 3) := by decide +kernel
theorem dX11_restAt_37 : decode cX11_restAt 37 = .ok (.aload_n 0, 1) := by decide +kernel
theorem dX11_restAt_38 : decode cX11_restAt 38 = .ok (.getfield 172, 3) := by decide +kernel
theorem dX11_restAt_41 : decode cX11_restAt 41 = .ok (.iload 4, 2) := by decide +kernel
theorem dX11_restAt_43 : decode cX11_restAt 43 = .ok (.iaload, 1) := by decide +kernel
theorem dX11_restAt_44 : decode cX11_restAt 44 = .ok (.aload_n 0, 1) := by decide +kernel
theorem dX11_restAt_45 : decode cX11_restAt 45 = .ok (.getfield 172, 3) := by decide +kernel
theorem dX11_restAt_48 : decode cX11_restAt 48 = .ok (.iload 4, 2) := by decide +kernel
theorem dX11_restAt_50 : decode cX11_restAt 50 = .ok (.iconst 2, 1) := by decide +kernel
theorem dX11_restAt_51 : decode cX11_restAt 51 = .ok (.irem, 1) := by decide +kernel
theorem dX11_restAt_52 : decode cX11_restAt 52 = .ok (.ifCond .ne 10, 3) := by decide +kernel
theorem dX11_restAt_55 : decode cX11_restAt 55 = .ok (.iload 4, 2) := by decide +kernel
theorem dX11_restAt_57 : decode cX11_restAt 57 = .ok (.iconst 1, 1) := by decide +kernel
theorem dX11_restAt_58 : decode cX11_restAt 58 = .ok (.iadd, 1) := by decide +kernel
theorem dX11_restAt_59 : decode cX11_restAt 59 = .ok (.goto 7, 3) := by decide +kernel
theorem dX11_restAt_62 : decode cX11_restAt 62 = .ok (.iload 4, 2) := by decide +kernel
theorem dX11_restAt_64 : decode cX11_restAt 64 = .ok (.iconst 1, 1) := by decide +kernel
theorem dX11_restAt_65 : decode cX11_restAt 65 = .ok (.isub, 1) := by decide +kernel
theorem dX11_restAt_66 : decode cX11_restAt 66 = .ok (.iaload, 1) := by decide +kernel
theorem dX11_restAt_67 : decode cX11_restAt 67 = .ok (.if_icmp .ge 6, 3) := by decide +kernel
theorem dX11_restAt_70 : decode cX11_restAt 70 = .ok (.goto 24, 3) := by decide +kernel
theorem dX11_restAt_73 : decode cX11_restAt 73 = .ok (.iload_n 3, 1) := by decide +kernel
theorem dX11_restAt_74 : decode cX11_restAt 74 = .ok (.iload_n 2, 1) := by decide +kernel
theorem dX11_restAt_75 : decode cX11_restAt 75 = .ok (.if_icmp .ne 16, 3) := by decide +kernel
theorem dX11_restAt_78 : decode cX11_restAt 78 = .ok (.bipush 10, 2) := by decide +kernel
theorem dX11_restAt_80 : decode cX11_restAt 80 = .ok (.iload 4, 2) := by decide +kernel
theorem dX11_restAt_82 : decode cX11_restAt 82 = .ok (.iconst 2, 1) := by decide +kernel
theorem dX11_restAt_83 : decode cX11_restAt 83 = .ok (.idiv, 1) := by decide +kernel
theorem dX11_restAt_84 : decode cX11_restAt 84 = .ok (.imul, 1) := by decide +kernel
theorem dX11_restAt_85 : decode cX11_restAt 85 = .ok (.iload 4, 2) := by decide +kernel
theorem dX11_restAt_87 : decode cX11_restAt 87 = .ok (.iconst 2, 1) := by decide +kernel
theorem dX11_restAt_88 : decode cX11_restAt 88 = .ok (.irem, 1) := by decide +kernel
theorem dX11_restAt_89 : decode cX11_restAt 89 = .ok (.iadd, 1) := by decide +kernel
theorem dX11_restAt_90 : decode cX11_restAt 90 = .ok (.ireturn, 1) := by decide +kernel
theorem dX11_restAt_91 : decode cX11_restAt 91 = .ok (.iinc 3 1, 3) := by decide +kernel
theorem dX11_restAt_94 : decode cX11_restAt 94 = .ok (.iinc 4 1, 3) := by decide +kernel
theorem dX11_restAt_97 : decode cX11_restAt 97 = .ok (.goto (-87), 3) := by decide +kernel
theorem dX11_restAt_100 : decode cX11_restAt 100 = .ok (.iload_n 2, 1) := by decide +kernel
theorem dX11_restAt_101 : decode cX11_restAt 101 = .ok (.ifCond .ge 7, 3) := by decide +kernel
theorem dX11_restAt_104 : decode cX11_restAt 104 = .ok (.iload_n 3, 1) := by decide +kernel
theorem dX11_restAt_105 : decode cX11_restAt 105 = .ok (.goto 5, 3) := by decide +kernel
theorem dX11_restAt_108 : decode cX11_restAt 108 = .ok (.bipush (-2), 2) := by decide +kernel
theorem dX11_restAt_110 : decode cX11_restAt 110 = .ok (.ireturn, 1) := by decide +kernel
theorem dX11_rests_0 : decode cX11_rests 0 = .ok (.aload_n 0, 1) := by decide +kernel
theorem dX11_rests_1 : decode cX11_rests 1 = .ok (.iconst 0, 1) := by decide +kernel
theorem dX11_rests_2 : decode cX11_rests 2 = .ok (.putfield 193, 3) := by decide +kernel
theorem dX11_rests_5 : decode cX11_rests 5 = .ok (.iload_n 1, 1) := by decide +kernel
theorem dX11_rests_6 : decode cX11_rests 6 = .ok (.iconst 0, 1) := by decide +kernel
theorem dX11_rests_7 : decode cX11_rests 7 = .ok (.sipush 9999, 3) := by decide +kernel
theorem dX11_rests_10 : decode cX11_rests 10 = .ok (.invokestatic 238, 3) := by decide +kernel
theorem dX11_rests_13 : decode cX11_rests 13 = .ok (.ifCond .eq 12, 3) := by decide +kernel
theorem dX11_rests_16 : decode cX11_rests 16 = .ok (.aload_n 0, 1) := by decide +kernel
theorem dX11_rests_17 : decode cX11_rests 17 = .ok (.iload_n 1, 1) := by decide +kernel
theorem dX11_rests_18 : decode cX11_rests 18 = .ok (.iconst (-1), 1) := by decide +kernel
theorem dX11_rests_19 : decode cX11_rests 19 = .ok (.invokevirtual 534, 3) := by decide +kernel
theorem dX11_rests_22 : decode cX11_rests 22 = .ok (.goto 4, 3) := by decide +kernel
theorem dX11_rests_25 : decode cX11_rests 25 = .ok (.iconst (-1), 1) := by decide +kernel
theorem dX11_rests_26 : decode cX11_rests 26 = .ok (.ireturn, 1) := by decide +kernel
theorem dX11_rest_0 : decode cX11_rest 0 = .ok (.aload_n 0, 1) := by decide +kernel
theorem dX11_rest_1 : decode cX11_rest 1 = .ok (.iconst 0, 1) := by decide +kernel
theorem dX11_rest_2 : decode cX11_rest 2 = .ok (.putfield 193, 3) := by decide +kernel
theorem dX11_rest_5 : decode cX11_rest 5 = .ok (.iload_n 1, 1) := by decide +kernel
theorem dX11_rest_6 : decode cX11_rest 6 = .ok (.iconst 0, 1) := by decide +kernel
theorem dX11_rest_7 : decode cX11_rest 7 = .ok (.sipush 9999, 3) := by decide +kernel
theorem dX11_rest_10 : decode cX11_rest 10 = .ok (.invokestatic 238, 3) := by decide +kernel
theorem dX11_rest_13 : decode cX11_rest 13 = .ok (.ifCond .eq 16, 3) := by decide +kernel
theorem dX11_rest_16 : decode cX11_rest 16 = .ok (.iload_n 2, 1) := by decide +kernel
theorem dX11_rest_17 : decode cX11_rest 17 = .ok (.ifCond .lt 12, 3) := by decide +kernel
theorem dX11_rest_20 : decode cX11_rest 20 = .ok (.aload_n 0, 1) := by decide +kernel
theorem dX11_rest_21 : decode cX11_rest 21 = .ok (.iload_n 1, 1) := by decide +kernel
theorem dX11_rest_22 : decode cX11_rest 22 = .ok (.iload_n 2, 1) := by decide +kernel
theorem dX11_rest_23 : decode cX11_rest 23 = .ok (.invokevirtual 534, 3) := by decide +kernel
theorem dX11_rest_26 : decode cX11_rest 26 = .ok (.goto 4, 3) := by decide +kernel
theorem dX11_rest_29 : decode cX11_rest 29 = .ok (.iconst (-1), 1) := by decide +kernel
theorem dX11_rest_30 : decode cX11_rest 30 = .ok (.ireturn, 1) := by decide +kernel
theorem dX11_number1_0 : decode cX11_number1 0 = .ok (.aload_n 0, 1) := by decide +kernel
theorem dX11_number1_1 : decode cX11_number1 1 = .ok (.aload_n 0, 1) := by decide +kernel
theorem dX11_number1_2 : decode cX11_number1 2 = .ok (.getfield 393, 3) := by decide +kernel
theorem dX11_number1_5 : decode cX11_number1 5 = .ok (.ldc2_w 537, 3) := by decide +kernel
theorem dX11_number1_8 : decode cX11_number1 8 = .ok (.lmul, 1) := by decide +kernel
theorem dX11_number1_9 : decode cX11_number1 9 = .ok (.ldc2_w 539, 3) := by decide +kernel
theorem dX11_number1_12 : decode cX11_number1 12 = .ok (.ladd, 1) := by decide +kernel
theorem dX11_number1_13 : decode cX11_number1 13 = .ok (.ldc2_w 541, 3) := by decide +kernel
theorem dX11_number1_16 : decode cX11_number1 16 = .ok (.land, 1) := by decide +kernel
theorem dX11_number1_17 : decode cX11_number1 17 = .ok (.putfield 393, 3) := by decide +kernel
theorem dX11_number1_20 : decode cX11_number1 20 = .ok (.aload_n 0, 1) := by decide +kernel
theorem dX11_number1_21 : decode cX11_number1 21 = .ok (.getfield 393, 3) := by decide +kernel
theorem dX11_number1_24 : decode cX11_number1 24 = .ok (.ldc2_w 543, 3) := by decide +kernel
theorem dX11_number1_27 : decode cX11_number1 27 = .ok (.ldiv, 1) := by decide +kernel
theorem dX11_number1_28 : decode cX11_number1 28 = .ok (.iload_n 1, 1) := by decide +kernel
theorem dX11_number1_29 : decode cX11_number1 29 = .ok (.i2l, 1) := by decide +kernel
theorem dX11_number1_30 : decode cX11_number1 30 = .ok (.lrem, 1) := by decide +kernel
theorem dX11_number1_31 : decode cX11_number1 31 = .ok (.l2i, 1) := by decide +kernel
theorem dX11_number1_32 : decode cX11_number1 32 = .ok (.ireturn, 1) := by decide +kernel
theorem dX11_chance_0 : decode cX11_chance 0 = .ok (.aload_n 0, 1) := by decide +kernel
theorem dX11_chance_1 : decode cX11_chance 1 = .ok (.iconst 0, 1) := by decide +kernel
theorem dX11_chance_2 : decode cX11_chance 2 = .ok (.putfield 193, 3) := by decide +kernel
theorem dX11_chance_5 : decode cX11_chance 5 = .ok (.iload_n 1, 1) := by decide +kernel
theorem dX11_chance_6 : decode cX11_chance 6 = .ok (.ifCond .lt 24, 3) := by decide +kernel
theorem dX11_chance_9 : decode cX11_chance 9 = .ok (.iload_n 2, 1) := by decide +kernel
theorem dX11_chance_10 : decode cX11_chance 10 = .ok (.iconst 1, 1) := by decide +kernel
theorem dX11_chance_11 : decode cX11_chance 11 = .ok (.bipush 30, 2) := by decide +kernel
theorem dX11_chance_13 : decode cX11_chance 13 = .ok (.invokestatic 238, 3) := by decide +kernel
theorem dX11_chance_16 : decode cX11_chance 16 = .ok (.ifCond .eq 14, 3) := by decide +kernel
theorem dX11_chance_19 : decode cX11_chance 19 = .ok (.iload_n 3, 1) := by decide +kernel
theorem dX11_chance_20 : decode cX11_chance 20 = .ok (.iconst 0, 1) := by decide +kernel
theorem dX11_chance_21 : decode cX11_chance 21 = .ok (.sipush 9999, 3) := by decide +kernel
theorem dX11_chance_24 : decode cX11_chance 24 = .ok (.invokestatic 238, 3) := by decide +kernel
theorem dX11_chance_27 : decode cX11_chance 27 = .ok (.ifCond .ne 5, 3) := by decide +kernel
theorem dX11_chance_30 : decode cX11_chance 30 = .ok (.iconst (-1), 1) := by decide +kernel
theorem dX11_chance_31 : decode cX11_chance 31 = .ok (.ireturn, 1) := by decide +kernel
theorem dX11_chance_32 : decode cX11_chance 32 = .ok (.aload_n 0, 1) := by decide +kernel
theorem dX11_chance_33 : decode cX11_chance 33 = .ok (.getfield 393, 3) := by decide +kernel
theorem dX11_chance_36 : decode cX11_chance 36 = .ok (.lstore 4, 2) := by decide +kernel
theorem dX11_chance_38 : decode cX11_chance 38 = .ok (.aload_n 0, 1) := by decide +kernel
theorem dX11_chance_39 : decode cX11_chance 39 = .ok (.iload_n 1, 1) := by decide +kernel
theorem dX11_chance_40 : decode cX11_chance 40 = .ok (.i2l, 1) := by decide +kernel
theorem dX11_chance_41 : decode cX11_chance 41 = .ok (.putfield 393, 3) := by decide +kernel
theorem dX11_chance_44 : decode cX11_chance 44 = .ok (.iconst 0, 1) := by decide +kernel
theorem dX11_chance_45 : decode cX11_chance 45 = .ok (.istore 6, 2) := by decide +kernel
theorem dX11_chance_47 : decode cX11_chance 47 = .ok (.iconst 0, 1) := by decide +kernel
theorem dX11_chance_48 : decode cX11_chance 48 = .ok (.istore 7, 2) := by decide +kernel
theorem dX11_chance_50 : decode cX11_chance 50 = .ok (.iload 7, 2) := by decide +kernel
theorem dX11_chance_52 : decode cX11_chance 52 = .ok (.bipush 10, 2) := by decide +kernel
theorem dX11_chance_54 : decode cX11_chance 54 = .ok (.if_icmp .ge 125, 3) := by decide +kernel
theorem dX11_chance_57 : decode cX11_chance 57 = .ok (.aload_n 0, 1) := by decide +kernel
theorem dX11_chance_58 : decode cX11_chance 58 = .ok (.invokevirtual 482, 3) := by decide +kernel
theorem dX11_chance_61 : decode cX11_chance 61 = .ok (.iconst 0, 1) := by decide +kernel
theorem dX11_chance_62 : decode cX11_chance 62 = .ok (.istore 8, 2) := by decide +kernel
theorem dX11_chance_64 : decode cX11_chance 64 = .ok (.iload 8, 2) := by decide +kernel
theorem dX11_chance_66 : decode cX11_chance 66 = .ok (.iload_n 2, 1) := by decide +kernel
theorem dX11_chance_67 : decode cX11_chance 67 = .ok (.if_icmp .ge 87, 3) := by decide +kernel
theorem dX11_chance_70 : decode cX11_chance 70 = .ok (.aload_n 0, 1) := by decide +kernel
theorem dX11_chance_71 : decode cX11_chance 71 = .ok (.bipush 10, 2) := by decide +kernel
theorem dX11_chance_73 : decode cX11_chance 73 = .ok (.invokevirtual 545, 3) := by decide +kernel
theorem dX11_chance_76 : decode cX11_chance 76 = .ok (.istore 9, 2) := by decide +kernel
theorem dX11_chance_78 : decode cX11_chance 78 = .ok (.aload_n 0, 1) := by decide +kernel
theorem dX11_chance_79 : decode cX11_chance 79 = .ok (.getfield 142, 3) := by decide +kernel
theorem dX11_chance_82 : decode cX11_chance 82 = .ok (.iconst 1, 1) := by decide +kernel
theorem dX11_chance_83 : decode cX11_chance 83 = .ok (.dup2, 1) := by decide +kernel
theorem dX11_chance_84 : decode cX11_chance 84 = .ok (.iaload, 1) := by decide +kernel
theorem dX11_chance_85 : decode cX11_chance 85 = .ok (.iload 9, 2) := by decide +kernel
theorem dX11_chance_87 : decode cX11_chance 87 = .ok (.ifCond .ne 7, 3) := by decide +kernel
theorem dX11_chance_90 : decode cX11_chance 90 = .ok (.iconst 5, 1) := by decide +kernel
theorem dX11_chance_91 : decode cX11_chance 91 = .ok (.goto 4, 3) := by decide +kernel
theorem dX11_chance_94 : decode cX11_chance 94 = .ok (.iconst 0, 1) := by decide +kernel
theorem dX11_chance_95 : decode cX11_chance 95 = .ok (.iadd, 1) := by decide +kernel
theorem dX11_chance_96 : decode cX11_chance 96 = .ok (.iastore, 1) := by decide +kernel
theorem dX11_chance_97 : decode cX11_chance 97 = .ok (.iload 9, 2) := by decide +kernel
theorem dX11_chance_99 : decode cX11_chance 99 = .ok (.iconst 1, 1) := by decide +kernel
theorem dX11_chance_100 : decode cX11_chance 100 = .ok (.if_icmp .ne 43, 3) := by decide +kernel
theorem dX11_chance_103 : decode cX11_chance 103 = .ok (.aload_n 0, 1) := by decide +kernel
theorem dX11_chance_104 : decode cX11_chance 104 = .ok (.getfield 106, 3) := by decide +kernel
theorem dX11_chance_107 : decode cX11_chance 107 = .ok (.iconst 1, 1) := by decide +kernel
theorem dX11_chance_108 : decode cX11_chance 108 = .ok (.iaload, 1) := by decide +kernel
theorem dX11_chance_109 : decode cX11_chance 109 = .ok (.ifCond .le 34, 3) := by decide +kernel
theorem dX11_chance_112 : decode cX11_chance 112 = .ok (.aload_n 0, 1) := by decide +kernel
theorem dX11_chance_113 : decode cX11_chance 113 = .ok (.aload_n 0, 1) := by decide +kernel
theorem dX11_chance_114 : decode cX11_chance 114 = .ok (.getfield 106, 3) := by decide +kernel
theorem dX11_chance_117 : decode cX11_chance 117 = .ok (.iconst 1, 1) := by decide +kernel
theorem dX11_chance_118 : decode cX11_chance 118 = .ok (.iaload, 1) := by decide +kernel
theorem dX11_chance_119 : decode cX11_chance 119 = .ok (.invokevirtual 545, 3) := by decide +kernel
theorem dX11_chance_122 : decode cX11_chance 122 = .ok (.istore 10, 2) := by decide +kernel
theorem dX11_chance_124 : decode cX11_chance 124 = .ok (.aload_n 0, 1) := by decide +kernel
theorem dX11_chance_125 : decode cX11_chance 125 = .ok (.iconst 1, 1) := by decide +kernel
theorem dX11_chance_126 : decode cX11_chance 126 = .ok (.iload 10, 2) := by decide +kernel
theorem dX11_chance_128 : decode cX11_chance 128 = .ok (.invokevirtual 418, 3) := by decide +kernel
theorem dX11_chance_131 : decode cX11_chance 131 = .ok (.ifCond .eq 12, 3) := by decide +kernel
theorem dX11_chance_134 : decode cX11_chance 134 = .ok (.aload_n 0, 1) := by decide +kernel
theorem dX11_chance_135 : decode cX11_chance 135 = .ok (.iconst 1, 1) := by decide +kernel
theorem dX11_chance_136 : decode cX11_chance 136 = .ok (.iload 10, 2) := by decide +kernel
theorem dX11_chance_138 : decode cX11_chance 138 = .ok (.bipush 30, 2) := by decide +kernel
theorem dX11_chance_140 : decode cX11_chance 140 = .ok (.invokevirtual 449, 3) := by decide +kernel
theorem dX11_chance_143 : decode cX11_chance 143 = .ok (.aload_n 0, 1) := by decide +kernel
theorem dX11_chance_144 : decode cX11_chance 144 = .ok (.iconst 1, 1) := by decide +kernel
theorem dX11_chance_145 : decode cX11_chance 145 = .ok (.invokevirtual 479, 3) := by decide +kernel
theorem dX11_chance_148 : decode cX11_chance 148 = .ok (.iinc 8 1, 3) := by decide +kernel
theorem dX11_chance_151 : decode cX11_chance 151 = .ok (.goto (-87), 3) := by decide +kernel
theorem dX11_chance_154 : decode cX11_chance 154 = .ok (.iload 6, 2) := by decide +kernel
theorem dX11_chance_156 : decode cX11_chance 156 = .ok (.aload_n 0, 1) := by decide +kernel
theorem dX11_chance_157 : decode cX11_chance 157 = .ok (.iconst 1, 1) := by decide +kernel
theorem dX11_chance_158 : decode cX11_chance 158 = .ok (.invokevirtual 443, 3) := by decide +kernel
theorem dX11_chance_161 : decode cX11_chance 161 = .ok (.iload_n 3, 1) := by decide +kernel
theorem dX11_chance_162 : decode cX11_chance 162 = .ok (.if_icmp .lt 7, 3) := by decide +kernel
theorem dX11_chance_165 : decode cX11_chance 165 = .ok (.iconst 1, 1) := by decide +kernel
theorem dX11_chance_166 : decode cX11_chance 166 = .ok (.goto 4, 3) := by decide +kernel
theorem dX11_chance_169 : decode cX11_chance 169 = .ok (.iconst 0, 1) := by decide +kernel
theorem dX11_chance_170 : decode cX11_chance 170 = .ok (.iadd, 1) := by decide +kernel
theorem dX11_chance_171 : decode cX11_chance 171 = .ok (.istore 6, 2) := by decide +kernel
theorem dX11_chance_173 : decode cX11_chance 173 = .ok (.iinc 7 1, 3) := by decide +kernel
theorem dX11_chance_176 : decode cX11_chance 176 = .ok (.goto (-126), 3) := by decide +kernel
theorem dX11_chance_179 : decode cX11_chance 179 = .ok (.aload_n 0, 1) := by decide +kernel
theorem dX11_chance_180 : decode cX11_chance 180 = .ok (.lload 4, 2) := by decide +kernel
theorem dX11_chance_182 : decode cX11_chance 182 = .ok (.putfield 393, 3) := by decide +kernel
theorem dX11_chance_185 : decode cX11_chance 185 = .ok (.iload 6, 2) := by decide +kernel
theorem dX11_chance_187 : decode cX11_chance 187 = .ok (.ireturn, 1) := by decide +kernel
theorem dX11_tried_0 : decode cX11_tried 0 = .ok (.aload_n 0, 1) := by decide +kernel
theorem dX11_tried_1 : decode cX11_tried 1 = .ok (.iconst 0, 1) := by decide +kernel
theorem dX11_tried_2 : decode cX11_tried 2 = .ok (.putfield 193, 3) := by decide +kernel
theorem dX11_tried_5 : decode cX11_tried 5 = .ok (.iload_n 1, 1) := by decide +kernel
theorem dX11_tried_6 : decode cX11_tried 6 = .ok (.iconst 0, 1) := by decide +kernel
theorem dX11_tried_7 : decode cX11_tried 7 = .ok (.iconst 4, 1) := by decide +kernel
theorem dX11_tried_8 : decode cX11_tried 8 = .ok (.invokestatic 238, 3) := by decide +kernel
theorem dX11_tried_11 : decode cX11_tried 11 = .ok (.ifCond .eq 33, 3) := by decide +kernel
theorem dX11_tried_14 : decode cX11_tried 14 = .ok (.iload_n 3, 1) := by decide +kernel
theorem dX11_tried_15 : decode cX11_tried 15 = .ok (.iconst 0, 1) := by decide +kernel
theorem dX11_tried_16 : decode cX11_tried 16 = .ok (.bipush 50, 2) := by decide +kernel
theorem dX11_tried_18 : decode cX11_tried 18 = .ok (.invokestatic 238, 3) := by decide +kernel
theorem dX11_tried_21 : decode cX11_tried 21 = .ok (.ifCond .eq 23, 3) := by decide +kernel
theorem dX11_tried_24 : decode cX11_tried 24 = .ok (.iload_n 1, 1) := by decide +kernel
theorem dX11_tried_25 : decode cX11_tried 25 = .ok (.iconst 2, 1) := by decide +kernel
theorem dX11_tried_26 : decode cX11_tried 26 = .ok (.if_icmp .ne 14, 3) := by decide +kernel
theorem dX11_tried_29 : decode cX11_tried 29 = .ok (.aload_n 0, 1) := by decide +kernel
theorem dX11_tried_30 : decode cX11_tried 30 = .ok (.iload_n 2, 1) := by decide +kernel
theorem dX11_tried_31 : decode cX11_tried 31 = .ok (.invokevirtual 465, 3) := by decide +kernel
theorem dX11_tried_34 : decode cX11_tried 34 = .ok (.ifCond .ne 12, 3) := by decide +kernel
theorem dX11_tried_37 : decode cX11_tried 37 = .ok (.goto 7, 3) := by decide +kernel
theorem dX11_tried_40 : decode cX11_tried 40 = .ok (.iload_n 2, 1) := by decide +kernel
theorem dX11_tried_41 : decode cX11_tried 41 = .ok (.ifCond .eq 5, 3) := by decide +kernel
theorem dX11_tried_44 : decode cX11_tried 44 = .ok (.iconst (-1), 1) := by decide +kernel
theorem dX11_tried_45 : decode cX11_tried 45 = .ok (.ireturn, 1) := by decide +kernel
theorem dX11_tried_46 : decode cX11_tried 46 = .ok (.aload_n 0, 1) := by decide +kernel
theorem dX11_tried_47 : decode cX11_tried 47 = .ok (.invokevirtual 482, 3) := by decide +kernel
theorem dX11_tried_50 : decode cX11_tried 50 = .ok (.aload_n 0, 1) := by decide +kernel
theorem dX11_tried_51 : decode cX11_tried 51 = .ok (.iload_n 1, 1) := by decide +kernel
theorem dX11_tried_52 : decode cX11_tried 52 = .ok (.ifCond .ne 7, 3) := by decide +kernel
theorem dX11_tried_55 : decode cX11_tried 55 = .ok (.iconst 1, 1) := by decide +kernel
theorem dX11_tried_56 : decode cX11_tried 56 = .ok (.goto 4, 3) := by decide +kernel
theorem dX11_tried_59 : decode cX11_tried 59 = .ok (.iconst 0, 1) := by decide +kernel
theorem dX11_tried_60 : decode cX11_tried 60 = .ok (.putfield 409, 3) := by decide +kernel
theorem dX11_tried_63 : decode cX11_tried 63 = .ok (.aload_n 0, 1) := by decide +kernel
theorem dX11_tried_64 : decode cX11_tried 64 = .ok (.iload_n 1, 1) := by decide +kernel
theorem dX11_tried_65 : decode cX11_tried 65 = .ok (.iconst 1, 1) := by decide +kernel
theorem dX11_tried_66 : decode cX11_tried 66 = .ok (.if_icmp .ne 7, 3) := by decide +kernel
theorem dX11_tried_69 : decode cX11_tried 69 = .ok (.iconst 1, 1) := by decide +kernel
theorem dX11_tried_70 : decode cX11_tried 70 = .ok (.goto 4, 3) := by decide +kernel
theorem dX11_tried_73 : decode cX11_tried 73 = .ok (.iconst 0, 1) := by decide +kernel
theorem dX11_tried_74 : decode cX11_tried 74 = .ok (.putfield 412, 3) := by decide +kernel
theorem dX11_tried_77 : decode cX11_tried 77 = .ok (.aload_n 0, 1) := by decide +kernel
theorem dX11_tried_78 : decode cX11_tried 78 = .ok (.iload_n 1, 1) := by decide +kernel
theorem dX11_tried_79 : decode cX11_tried 79 = .ok (.iconst 4, 1) := by decide +kernel
theorem dX11_tried_80 : decode cX11_tried 80 = .ok (.if_icmp .ne 7, 3) := by decide +kernel
theorem dX11_tried_83 : decode cX11_tried 83 = .ok (.iconst 1, 1) := by decide +kernel
theorem dX11_tried_84 : decode cX11_tried 84 = .ok (.goto 4, 3) := by decide +kernel
theorem dX11_tried_87 : decode cX11_tried 87 = .ok (.iconst 0, 1) := by decide +kernel
theorem dX11_tried_88 : decode cX11_tried 88 = .ok (.putfield 415, 3) := by decide +kernel
theorem dX11_tried_91 : decode cX11_tried 91 = .ok (.iload_n 1, 1) := by decide +kernel
theorem dX11_tried_92 : decode cX11_tried 92 = .ok (.iconst 2, 1) := by decide +kernel
theorem dX11_tried_93 : decode cX11_tried 93 = .ok (.if_icmp .ne 22, 3) := by decide +kernel
theorem dX11_tried_96 : decode cX11_tried 96 = .ok (.aload_n 0, 1) := by decide +kernel
theorem dX11_tried_97 : decode cX11_tried 97 = .ok (.iconst 1, 1) := by decide +kernel
theorem dX11_tried_98 : decode cX11_tried 98 = .ok (.iload_n 2, 1) := by decide +kernel
theorem dX11_tried_99 : decode cX11_tried 99 = .ok (.invokevirtual 418, 3) := by decide +kernel
theorem dX11_tried_102 : decode cX11_tried 102 = .ok (.ifCond .eq 13, 3) := by decide +kernel
theorem dX11_tried_105 : decode cX11_tried 105 = .ok (.aload_n 0, 1) := by decide +kernel
theorem dX11_tried_106 : decode cX11_tried 106 = .ok (.getfield 127, 3) := by decide +kernel
theorem dX11_tried_109 : decode cX11_tried 109 = .ok (.bipush 12, 2) := by decide +kernel
theorem dX11_tried_111 : decode cX11_tried 111 = .ok (.iload_n 2, 1) := by decide +kernel
theorem dX11_tried_112 : decode cX11_tried 112 = .ok (.iadd, 1) := by decide +kernel
theorem dX11_tried_113 : decode cX11_tried 113 = .ok (.iconst 2, 1) := by decide +kernel
theorem dX11_tried_114 : decode cX11_tried 114 = .ok (.iastore, 1) := by decide +kernel
theorem dX11_tried_115 : decode cX11_tried 115 = .ok (.iload_n 1, 1) := by decide +kernel
theorem dX11_tried_116 : decode cX11_tried 116 = .ok (.iconst 3, 1) := by decide +kernel
theorem dX11_tried_117 : decode cX11_tried 117 = .ok (.if_icmp .ne 8, 3) := by decide +kernel
theorem dX11_tried_120 : decode cX11_tried 120 = .ok (.aload_n 0, 1) := by decide +kernel
theorem dX11_tried_121 : decode cX11_tried 121 = .ok (.iconst (-1), 1) := by decide +kernel
theorem dX11_tried_122 : decode cX11_tried 122 = .ok (.invokevirtual 522, 3) := by decide +kernel
theorem dX11_tried_125 : decode cX11_tried 125 = .ok (.iconst 0, 1) := by decide +kernel
theorem dX11_tried_126 : decode cX11_tried 126 = .ok (.istore 4, 2) := by decide +kernel
theorem dX11_tried_128 : decode cX11_tried 128 = .ok (.iload 4, 2) := by decide +kernel
theorem dX11_tried_130 : decode cX11_tried 130 = .ok (.iload_n 3, 1) := by decide +kernel
theorem dX11_tried_131 : decode cX11_tried 131 = .ok (.if_icmp .ge 14, 3) := by decide +kernel
theorem dX11_tried_134 : decode cX11_tried 134 = .ok (.aload_n 0, 1) := by decide +kernel
theorem dX11_tried_135 : decode cX11_tried 135 = .ok (.iconst 1, 1) := by decide +kernel
theorem dX11_tried_136 : decode cX11_tried 136 = .ok (.invokevirtual 479, 3) := by decide +kernel
theorem dX11_tried_139 : decode cX11_tried 139 = .ok (.iinc 4 1, 3) := by decide +kernel
theorem dX11_tried_142 : decode cX11_tried 142 = .ok (.goto (-14), 3) := by decide +kernel
theorem dX11_tried_145 : decode cX11_tried 145 = .ok (.aload_n 0, 1) := by decide +kernel
theorem dX11_tried_146 : decode cX11_tried 146 = .ok (.invokevirtual 397, 3) := by decide +kernel
theorem dX11_tried_149 : decode cX11_tried 149 = .ok (.aload_n 0, 1) := by decide +kernel
theorem dX11_tried_150 : decode cX11_tried 150 = .ok (.iconst 1, 1) := by decide +kernel
theorem dX11_tried_151 : decode cX11_tried 151 = .ok (.invokevirtual 443, 3) := by decide +kernel
theorem dX11_tried_154 : decode cX11_tried 154 = .ok (.ireturn, 1) := by decide +kernel
theorem dX11_put_0 : decode cX11_put 0 = .ok (.iconst 0, 1) := by decide +kernel
theorem dX11_put_1 : decode cX11_put 1 = .ok (.istore_n 3, 1) := by decide +kernel
theorem dX11_put_2 : decode cX11_put 2 = .ok (.iload_n 3, 1) := by decide +kernel
theorem dX11_put_3 : decode cX11_put 3 = .ok (.bipush 6, 2) := by decide +kernel
theorem dX11_put_5 : decode cX11_put 5 = .ok (.if_icmp .ge 34, 3) := by decide +kernel
theorem dX11_put_8 : decode cX11_put 8 = .ok (.aload_n 1, 1) := by decide +kernel
theorem dX11_put_9 : decode cX11_put 9 = .ok (.iload_n 2, 1) := by decide +kernel
theorem dX11_put_10 : decode cX11_put 10 = .ok (.iload_n 3, 1) := by decide +kernel
theorem dX11_put_11 : decode cX11_put 11 = .ok (.iadd, 1) := by decide +kernel
theorem dX11_put_12 : decode cX11_put 12 = .ok (.aload_n 0, 1) := by decide +kernel
theorem dX11_put_13 : decode cX11_put 13 = .ok (.getfield 100, 3) := by decide +kernel
theorem dX11_put_16 : decode cX11_put 16 = .ok (.iload_n 3, 1) := by decide +kernel
theorem dX11_put_17 : decode cX11_put 17 = .ok (.iaload, 1) := by decide +kernel
theorem dX11_put_18 : decode cX11_put 18 = .ok (.iastore, 1) := by decide +kernel
theorem dX11_put_19 : decode cX11_put 19 = .ok (.aload_n 1, 1) := by decide +kernel
theorem dX11_put_20 : decode cX11_put 20 = .ok (.iload_n 2, 1) := by decide +kernel
theorem dX11_put_21 : decode cX11_put 21 = .ok (.bipush 6, 2) := by decide +kernel
theorem dX11_put_23 : decode cX11_put 23 = .ok (.iadd, 1) := by decide +kernel
theorem dX11_put_24 : decode cX11_put 24 = .ok (.iload_n 3, 1) := by decide +kernel
theorem dX11_put_25 : decode cX11_put 25 = .ok (.iadd, 1) := by decide +kernel
theorem dX11_put_26 : decode cX11_put 26 = .ok (.aload_n 0, 1) := by decide +kernel
theorem dX11_put_27 : decode cX11_put 27 = .ok (.getfield 103, 3) := by decide +kernel
theorem dX11_put_30 : decode cX11_put 30 = .ok (.iload_n 3, 1) := by decide +kernel
theorem dX11_put_31 : decode cX11_put 31 = .ok (.iaload, 1) := by decide +kernel
theorem dX11_put_32 : decode cX11_put 32 = .ok (.iastore, 1) := by decide +kernel
theorem dX11_put_33 : decode cX11_put 33 = .ok (.iinc 3 1, 3) := by decide +kernel
theorem dX11_put_36 : decode cX11_put 36 = .ok (.goto (-34), 3) := by decide +kernel
theorem dX11_put_39 : decode cX11_put 39 = .ok (.iconst 0, 1) := by decide +kernel
theorem dX11_put_40 : decode cX11_put 40 = .ok (.istore_n 3, 1) := by decide +kernel
theorem dX11_put_41 : decode cX11_put 41 = .ok (.iload_n 3, 1) := by decide +kernel
theorem dX11_put_42 : decode cX11_put 42 = .ok (.bipush 12, 2) := by decide +kernel
theorem dX11_put_44 : decode cX11_put 44 = .ok (.if_icmp .ge 37, 3) := by decide +kernel
theorem dX11_put_47 : decode cX11_put 47 = .ok (.aload_n 1, 1) := by decide +kernel
theorem dX11_put_48 : decode cX11_put 48 = .ok (.iload_n 2, 1) := by decide +kernel
theorem dX11_put_49 : decode cX11_put 49 = .ok (.bipush 12, 2) := by decide +kernel
theorem dX11_put_51 : decode cX11_put 51 = .ok (.iadd, 1) := by decide +kernel
theorem dX11_put_52 : decode cX11_put 52 = .ok (.iload_n 3, 1) := by decide +kernel
theorem dX11_put_53 : decode cX11_put 53 = .ok (.iadd, 1) := by decide +kernel
theorem dX11_put_54 : decode cX11_put 54 = .ok (.aload_n 0, 1) := by decide +kernel
theorem dX11_put_55 : decode cX11_put 55 = .ok (.getfield 127, 3) := by decide +kernel
theorem dX11_put_58 : decode cX11_put 58 = .ok (.iload_n 3, 1) := by decide +kernel
theorem dX11_put_59 : decode cX11_put 59 = .ok (.iaload, 1) := by decide +kernel
theorem dX11_put_60 : decode cX11_put 60 = .ok (.iastore, 1) := by decide +kernel
theorem dX11_put_61 : decode cX11_put 61 = .ok (.aload_n 1, 1) := by decide +kernel
theorem dX11_put_62 : decode cX11_put 62 = .ok (.iload_n 2, 1) := by decide +kernel
theorem dX11_put_63 : decode cX11_put 63 = .ok (.bipush 24, 2) := by decide +kernel
theorem dX11_put_65 : decode cX11_put 65 = .ok (.iadd, 1) := by decide +kernel
theorem dX11_put_66 : decode cX11_put 66 = .ok (.iload_n 3, 1) := by decide +kernel
theorem dX11_put_67 : decode cX11_put 67 = .ok (.iadd, 1) := by decide +kernel
theorem dX11_put_68 : decode cX11_put 68 = .ok (.aload_n 0, 1) := by decide +kernel
theorem dX11_put_69 : decode cX11_put 69 = .ok (.getfield 130, 3) := by decide +kernel
theorem dX11_put_72 : decode cX11_put 72 = .ok (.iload_n 3, 1) := by decide +kernel
theorem dX11_put_73 : decode cX11_put 73 = .ok (.iaload, 1) := by decide +kernel
theorem dX11_put_74 : decode cX11_put 74 = .ok (.iastore, 1) := by decide +kernel
theorem dX11_put_75 : decode cX11_put 75 = .ok (.iinc 3 1, 3) := by decide +kernel
theorem dX11_put_78 : decode cX11_put 78 = .ok (.goto (-37), 3) := by decide +kernel
theorem dX11_put_81 : decode cX11_put 81 = .ok (.aload_n 1, 1) := by decide +kernel
theorem dX11_put_82 : decode cX11_put 82 = .ok (.iload_n 2, 1) := by decide +kernel
theorem dX11_put_83 : decode cX11_put 83 = .ok (.bipush 36, 2) := by decide +kernel
theorem dX11_put_85 : decode cX11_put 85 = .ok (.iadd, 1) := by decide +kernel
theorem dX11_put_86 : decode cX11_put 86 = .ok (.aload_n 0, 1) := by decide +kernel
theorem dX11_put_87 : decode cX11_put 87 = .ok (.getfield 106, 3) := by decide +kernel
theorem dX11_put_90 : decode cX11_put 90 = .ok (.iconst 0, 1) := by decide +kernel
theorem dX11_put_91 : decode cX11_put 91 = .ok (.iaload, 1) := by decide +kernel
theorem dX11_put_92 : decode cX11_put 92 = .ok (.iastore, 1) := by decide +kernel
theorem dX11_put_93 : decode cX11_put 93 = .ok (.return_, 1) := by decide +kernel
theorem dX11_take_0 : decode cX11_take 0 = .ok (.iconst 0, 1) := by decide +kernel
theorem dX11_take_1 : decode cX11_take 1 = .ok (.istore_n 3, 1) := by decide +kernel
theorem dX11_take_2 : decode cX11_take 2 = .ok (.iload_n 3, 1) := by decide +kernel
theorem dX11_take_3 : decode cX11_take 3 = .ok (.bipush 6, 2) := by decide +kernel
theorem dX11_take_5 : decode cX11_take 5 = .ok (.if_icmp .ge 34, 3) := by decide +kernel
theorem dX11_take_8 : decode cX11_take 8 = .ok (.aload_n 0, 1) := by decide +kernel
theorem dX11_take_9 : decode cX11_take 9 = .ok (.getfield 100, 3) := by decide +kernel
theorem dX11_take_12 : decode cX11_take 12 = .ok (.iload_n 3, 1) := by decide +kernel
theorem dX11_take_13 : decode cX11_take 13 = .ok (.aload_n 1, 1) := by decide +kernel
theorem dX11_take_14 : decode cX11_take 14 = .ok (.iload_n 2, 1) := by decide +kernel
theorem dX11_take_15 : decode cX11_take 15 = .ok (.iload_n 3, 1) := by decide +kernel
theorem dX11_take_16 : decode cX11_take 16 = .ok (.iadd, 1) := by decide +kernel
theorem dX11_take_17 : decode cX11_take 17 = .ok (.iaload, 1) := by decide +kernel
theorem dX11_take_18 : decode cX11_take 18 = .ok (.iastore, 1) := by decide +kernel
theorem dX11_take_19 : decode cX11_take 19 = .ok (.aload_n 0, 1) := by decide +kernel
theorem dX11_take_20 : decode cX11_take 20 = .ok (.getfield 103, 3) := by decide +kernel
theorem dX11_take_23 : decode cX11_take 23 = .ok (.iload_n 3, 1) := by decide +kernel
theorem dX11_take_24 : decode cX11_take 24 = .ok (.aload_n 1, 1) := by decide +kernel
theorem dX11_take_25 : decode cX11_take 25 = .ok (.iload_n 2, 1) := by decide +kernel
theorem dX11_take_26 : decode cX11_take 26 = .ok (.bipush 6, 2) := by decide +kernel
theorem dX11_take_28 : decode cX11_take 28 = .ok (.iadd, 1) := by decide +kernel
theorem dX11_take_29 : decode cX11_take 29 = .ok (.iload_n 3, 1) := by decide +kernel
theorem dX11_take_30 : decode cX11_take 30 = .ok (.iadd, 1) := by decide +kernel
theorem dX11_take_31 : decode cX11_take 31 = .ok (.iaload, 1) := by decide +kernel
theorem dX11_take_32 : decode cX11_take 32 = .ok (.iastore, 1) := by decide +kernel
theorem dX11_take_33 : decode cX11_take 33 = .ok (.iinc 3 1, 3) := by decide +kernel
theorem dX11_take_36 : decode cX11_take 36 = .ok (.goto (-34), 3) := by decide +kernel
theorem dX11_take_39 : decode cX11_take 39 = .ok (.iconst 0, 1) := by decide +kernel
theorem dX11_take_40 : decode cX11_take 40 = .ok (.istore_n 3, 1) := by decide +kernel
theorem dX11_take_41 : decode cX11_take 41 = .ok (.iload_n 3, 1) := by decide +kernel
theorem dX11_take_42 : decode cX11_take 42 = .ok (.bipush 12, 2) := by decide +kernel
theorem dX11_take_44 : decode cX11_take 44 = .ok (.if_icmp .ge 37, 3) := by decide +kernel
theorem dX11_take_47 : decode cX11_take 47 = .ok (.aload_n 0, 1) := by decide +kernel
theorem dX11_take_48 : decode cX11_take 48 = .ok (.getfield 127, 3) := by decide +kernel
theorem dX11_take_51 : decode cX11_take 51 = .ok (.iload_n 3, 1) := by decide +kernel
theorem dX11_take_52 : decode cX11_take 52 = .ok (.aload_n 1, 1) := by decide +kernel
theorem dX11_take_53 : decode cX11_take 53 = .ok (.iload_n 2, 1) := by decide +kernel
theorem dX11_take_54 : decode cX11_take 54 = .ok (.bipush 12, 2) := by decide +kernel
theorem dX11_take_56 : decode cX11_take 56 = .ok (.iadd, 1) := by decide +kernel
theorem dX11_take_57 : decode cX11_take 57 = .ok (.iload_n 3, 1) := by decide +kernel
theorem dX11_take_58 : decode cX11_take 58 = .ok (.iadd, 1) := by decide +kernel
theorem dX11_take_59 : decode cX11_take 59 = .ok (.iaload, 1) := by decide +kernel
theorem dX11_take_60 : decode cX11_take 60 = .ok (.iastore, 1) := by decide +kernel
theorem dX11_take_61 : decode cX11_take 61 = .ok (.aload_n 0, 1) := by decide +kernel
theorem dX11_take_62 : decode cX11_take 62 = .ok (.getfield 130, 3) := by decide +kernel
theorem dX11_take_65 : decode cX11_take 65 = .ok (.iload_n 3, 1) := by decide +kernel
theorem dX11_take_66 : decode cX11_take 66 = .ok (.aload_n 1, 1) := by decide +kernel
theorem dX11_take_67 : decode cX11_take 67 = .ok (.iload_n 2, 1) := by decide +kernel
theorem dX11_take_68 : decode cX11_take 68 = .ok (.bipush 24, 2) := by decide +kernel
theorem dX11_take_70 : decode cX11_take 70 = .ok (.iadd, 1) := by decide +kernel
theorem dX11_take_71 : decode cX11_take 71 = .ok (.iload_n 3, 1) := by decide +kernel
theorem dX11_take_72 : decode cX11_take 72 = .ok (.iadd, 1) := by decide +kernel
theorem dX11_take_73 : decode cX11_take 73 = .ok (.iaload, 1) := by decide +kernel
theorem dX11_take_74 : decode cX11_take 74 = .ok (.iastore, 1) := by decide +kernel
theorem dX11_take_75 : decode cX11_take 75 = .ok (.iinc 3 1, 3) := by decide +kernel
theorem dX11_take_78 : decode cX11_take 78 = .ok (.goto (-37), 3) := by decide +kernel
theorem dX11_take_81 : decode cX11_take 81 = .ok (.aload_n 0, 1) := by decide +kernel
theorem dX11_take_82 : decode cX11_take 82 = .ok (.getfield 106, 3) := by decide +kernel
theorem dX11_take_85 : decode cX11_take 85 = .ok (.iconst 0, 1) := by decide +kernel
theorem dX11_take_86 : decode cX11_take 86 = .ok (.aload_n 1, 1) := by decide +kernel
theorem dX11_take_87 : decode cX11_take 87 = .ok (.iload_n 2, 1) := by decide +kernel
theorem dX11_take_88 : decode cX11_take 88 = .ok (.bipush 36, 2) := by decide +kernel
theorem dX11_take_90 : decode cX11_take 90 = .ok (.iadd, 1) := by decide +kernel
theorem dX11_take_91 : decode cX11_take 91 = .ok (.iaload, 1) := by decide +kernel
theorem dX11_take_92 : decode cX11_take 92 = .ok (.iastore, 1) := by decide +kernel
theorem dX11_take_93 : decode cX11_take 93 = .ok (.return_, 1) := by decide +kernel
theorem dX11_remember_0 : decode cX11_remember 0 = .ok (.aload_n 0, 1) := by decide +kernel
theorem dX11_remember_1 : decode cX11_remember 1 = .ok (.getfield 403, 3) := by decide +kernel
theorem dX11_remember_4 : decode cX11_remember 4 = .ok (.bipush 20, 2) := by decide +kernel
theorem dX11_remember_6 : decode cX11_remember 6 = .ok (.if_icmp .ne 43, 3) := by decide +kernel
theorem dX11_remember_9 : decode cX11_remember 9 = .ok (.iconst 0, 1) := by decide +kernel
theorem dX11_remember_10 : decode cX11_remember 10 = .ok (.istore_n 1, 1) := by decide +kernel
theorem dX11_remember_11 : decode cX11_remember 11 = .ok (.iload_n 1, 1) := by decide +kernel
theorem dX11_remember_12 : decode cX11_remember 12 = .ok (.sipush 703, 3) := by decide +kernel
theorem dX11_remember_15 : decode cX11_remember 15 = .ok (.if_icmp .ge 24, 3) := by decide +kernel
theorem dX11_remember_18 : decode cX11_remember 18 = .ok (.aload_n 0, 1) := by decide +kernel
theorem dX11_remember_19 : decode cX11_remember 19 = .ok (.getfield 175, 3) := by decide +kernel
theorem dX11_remember_22 : decode cX11_remember 22 = .ok (.iload_n 1, 1) := by decide +kernel
theorem dX11_remember_23 : decode cX11_remember 23 = .ok (.aload_n 0, 1) := by decide +kernel
theorem dX11_remember_24 : decode cX11_remember 24 = .ok (.getfield 175, 3) := by decide +kernel
theorem dX11_remember_27 : decode cX11_remember 27 = .ok (.iload_n 1, 1) := by decide +kernel
theorem dX11_remember_28 : decode cX11_remember 28 = .ok (.bipush 37, 2) := by decide +kernel
theorem dX11_remember_30 : decode cX11_remember 30 = .ok (.iadd, 1) := by decide +kernel
theorem dX11_remember_31 : decode cX11_remember 31 = .ok (.iaload, 1) := by decide +kernel
theorem dX11_remember_32 : decode cX11_remember 32 = .ok (.iastore, 1) := by decide +kernel
theorem dX11_remember_33 : decode cX11_remember 33 = .ok (.iinc 1 1, 3) := by decide +kernel
theorem dX11_remember_36 : decode cX11_remember 36 = .ok (.goto (-25), 3) := by decide +kernel
theorem dX11_remember_39 : decode cX11_remember 39 = .ok (.aload_n 0, 1) := by decide +kernel
theorem dX11_remember_40 : decode cX11_remember 40 = .ok (.dup, 1) := by decide +kernel
theorem dX11_remember_41 : decode cX11_remember 41 = .ok (.getfield 403, 3) := by decide +kernel
theorem dX11_remember_44 : decode cX11_remember 44 = .ok (.iconst 1, 1) := by decide +kernel
theorem dX11_remember_45 : decode cX11_remember 45 = .ok (.isub, 1) := by decide +kernel
theorem dX11_remember_46 : decode cX11_remember 46 = .ok (.putfield 403, 3) := by decide +kernel
theorem dX11_remember_49 : decode cX11_remember 49 = .ok (.aload_n 0, 1) := by decide +kernel
theorem dX11_remember_50 : decode cX11_remember 50 = .ok (.aload_n 0, 1) := by decide +kernel
theorem dX11_remember_51 : decode cX11_remember 51 = .ok (.getfield 175, 3) := by decide +kernel
theorem dX11_remember_54 : decode cX11_remember 54 = .ok (.bipush 37, 2) := by decide +kernel
theorem dX11_remember_56 : decode cX11_remember 56 = .ok (.aload_n 0, 1) := by decide +kernel
theorem dX11_remember_57 : decode cX11_remember 57 = .ok (.getfield 403, 3) := by decide +kernel
theorem dX11_remember_60 : decode cX11_remember 60 = .ok (.imul, 1) := by decide +kernel
theorem dX11_remember_61 : decode cX11_remember 61 = .ok (.invokevirtual 548, 3) := by decide +kernel
theorem dX11_remember_64 : decode cX11_remember 64 = .ok (.aload_n 0, 1) := by decide +kernel
theorem dX11_remember_65 : decode cX11_remember 65 = .ok (.dup, 1) := by decide +kernel
theorem dX11_remember_66 : decode cX11_remember 66 = .ok (.getfield 403, 3) := by decide +kernel
theorem dX11_remember_69 : decode cX11_remember 69 = .ok (.iconst 1, 1) := by decide +kernel
theorem dX11_remember_70 : decode cX11_remember 70 = .ok (.iadd, 1) := by decide +kernel
theorem dX11_remember_71 : decode cX11_remember 71 = .ok (.putfield 403, 3) := by decide +kernel
theorem dX11_remember_74 : decode cX11_remember 74 = .ok (.return_, 1) := by decide +kernel
theorem dX11_undo_0 : decode cX11_undo 0 = .ok (.aload_n 0, 1) := by decide +kernel
theorem dX11_undo_1 : decode cX11_undo 1 = .ok (.iconst 0, 1) := by decide +kernel
theorem dX11_undo_2 : decode cX11_undo 2 = .ok (.putfield 193, 3) := by decide +kernel
theorem dX11_undo_5 : decode cX11_undo 5 = .ok (.aload_n 0, 1) := by decide +kernel
theorem dX11_undo_6 : decode cX11_undo 6 = .ok (.getfield 403, 3) := by decide +kernel
theorem dX11_undo_9 : decode cX11_undo 9 = .ok (.ifCond .ne 5, 3) := by decide +kernel
theorem dX11_undo_12 : decode cX11_undo 12 = .ok (.iconst (-1), 1) := by decide +kernel
theorem dX11_undo_13 : decode cX11_undo 13 = .ok (.ireturn, 1) := by decide +kernel
theorem dX11_undo_14 : decode cX11_undo 14 = .ok (.aload_n 0, 1) := by decide +kernel
theorem dX11_undo_15 : decode cX11_undo 15 = .ok (.dup, 1) := by decide +kernel
theorem dX11_undo_16 : decode cX11_undo 16 = .ok (.getfield 403, 3) := by decide +kernel
theorem dX11_undo_19 : decode cX11_undo 19 = .ok (.iconst 1, 1) := by decide +kernel
theorem dX11_undo_20 : decode cX11_undo 20 = .ok (.isub, 1) := by decide +kernel
theorem dX11_undo_21 : decode cX11_undo 21 = .ok (.putfield 403, 3) := by decide +kernel
theorem dX11_undo_24 : decode cX11_undo 24 = .ok (.aload_n 0, 1) := by decide +kernel
theorem dX11_undo_25 : decode cX11_undo 25 = .ok (.aload_n 0, 1) := by decide +kernel
theorem dX11_undo_26 : decode cX11_undo 26 = .ok (.getfield 175, 3) := by decide +kernel
theorem dX11_undo_29 : decode cX11_undo 29 = .ok (.bipush 37, 2) := by decide +kernel
theorem dX11_undo_31 : decode cX11_undo 31 = .ok (.aload_n 0, 1) := by decide +kernel
theorem dX11_undo_32 : decode cX11_undo 32 = .ok (.getfield 403, 3) := by decide +kernel
theorem dX11_undo_35 : decode cX11_undo 35 = .ok (.imul, 1) := by decide +kernel
theorem dX11_undo_36 : decode cX11_undo 36 = .ok (.invokevirtual 551, 3) := by decide +kernel
theorem dX11_undo_39 : decode cX11_undo 39 = .ok (.aload_n 0, 1) := by decide +kernel
theorem dX11_undo_40 : decode cX11_undo 40 = .ok (.getfield 403, 3) := by decide +kernel
theorem dX11_undo_43 : decode cX11_undo 43 = .ok (.ireturn, 1) := by decide +kernel
theorem dX11_keep_0 : decode cX11_keep 0 = .ok (.aload_n 0, 1) := by decide +kernel
theorem dX11_keep_1 : decode cX11_keep 1 = .ok (.iconst 0, 1) := by decide +kernel
theorem dX11_keep_2 : decode cX11_keep 2 = .ok (.putfield 193, 3) := by decide +kernel
theorem dX11_keep_5 : decode cX11_keep 5 = .ok (.aload_n 0, 1) := by decide +kernel
theorem dX11_keep_6 : decode cX11_keep 6 = .ok (.iconst 1, 1) := by decide +kernel
theorem dX11_keep_7 : decode cX11_keep 7 = .ok (.putfield 406, 3) := by decide +kernel
theorem dX11_keep_10 : decode cX11_keep 10 = .ok (.aload_n 0, 1) := by decide +kernel
theorem dX11_keep_11 : decode cX11_keep 11 = .ok (.aload_n 0, 1) := by decide +kernel
theorem dX11_keep_12 : decode cX11_keep 12 = .ok (.getfield 178, 3) := by decide +kernel
theorem dX11_keep_15 : decode cX11_keep 15 = .ok (.iconst 0, 1) := by decide +kernel
theorem dX11_keep_16 : decode cX11_keep 16 = .ok (.invokevirtual 548, 3) := by decide +kernel
theorem dX11_keep_19 : decode cX11_keep 19 = .ok (.iconst 0, 1) := by decide +kernel
theorem dX11_keep_20 : decode cX11_keep 20 = .ok (.istore_n 1, 1) := by decide +kernel
theorem dX11_keep_21 : decode cX11_keep 21 = .ok (.iload_n 1, 1) := by decide +kernel
theorem dX11_keep_22 : decode cX11_keep 22 = .ok (.bipush 12, 2) := by decide +kernel
theorem dX11_keep_24 : decode cX11_keep 24 = .ok (.if_icmp .ge 107, 3) := by decide +kernel
theorem dX11_keep_27 : decode cX11_keep 27 = .ok (.aload_n 0, 1) := by decide +kernel
theorem dX11_keep_28 : decode cX11_keep 28 = .ok (.getfield 181, 3) := by decide +kernel
theorem dX11_keep_31 : decode cX11_keep 31 = .ok (.iload_n 1, 1) := by decide +kernel
theorem dX11_keep_32 : decode cX11_keep 32 = .ok (.aload_n 0, 1) := by decide +kernel
theorem dX11_keep_33 : decode cX11_keep 33 = .ok (.getfield 109, 3) := by decide +kernel
theorem dX11_keep_36 : decode cX11_keep 36 = .ok (.iload_n 1, 1) := by decide +kernel
theorem dX11_keep_37 : decode cX11_keep 37 = .ok (.iaload, 1) := by decide +kernel
theorem dX11_keep_38 : decode cX11_keep 38 = .ok (.iastore, 1) := by decide +kernel
theorem dX11_keep_39 : decode cX11_keep 39 = .ok (.aload_n 0, 1) := by decide +kernel
theorem dX11_keep_40 : decode cX11_keep 40 = .ok (.getfield 181, 3) := by decide +kernel
theorem dX11_keep_43 : decode cX11_keep 43 = .ok (.bipush 12, 2) := by decide +kernel
theorem dX11_keep_45 : decode cX11_keep 45 = .ok (.iload_n 1, 1) := by decide +kernel
theorem dX11_keep_46 : decode cX11_keep 46 = .ok (.iadd, 1) := by decide +kernel
theorem dX11_keep_47 : decode cX11_keep 47 = .ok (.aload_n 0, 1) := by decide +kernel
theorem dX11_keep_48 : decode cX11_keep 48 = .ok (.getfield 112, 3) := by decide +kernel
theorem dX11_keep_51 : decode cX11_keep 51 = .ok (.iload_n 1, 1) := by decide +kernel
theorem dX11_keep_52 : decode cX11_keep 52 = .ok (.iaload, 1) := by decide +kernel
theorem dX11_keep_53 : decode cX11_keep 53 = .ok (.iastore, 1) := by decide +kernel
theorem dX11_keep_54 : decode cX11_keep 54 = .ok (.aload_n 0, 1) := by decide +kernel
theorem dX11_keep_55 : decode cX11_keep 55 = .ok (.getfield 181, 3) := by decide +kernel
theorem dX11_keep_58 : decode cX11_keep 58 = .ok (.bipush 24, 2) := by decide +kernel
theorem dX11_keep_60 : decode cX11_keep 60 = .ok (.iload_n 1, 1) := by decide +kernel
theorem dX11_keep_61 : decode cX11_keep 61 = .ok (.iadd, 1) := by decide +kernel
theorem dX11_keep_62 : decode cX11_keep 62 = .ok (.aload_n 0, 1) := by decide +kernel
theorem dX11_keep_63 : decode cX11_keep 63 = .ok (.getfield 115, 3) := by decide +kernel
theorem dX11_keep_66 : decode cX11_keep 66 = .ok (.iload_n 1, 1) := by decide +kernel
theorem dX11_keep_67 : decode cX11_keep 67 = .ok (.iaload, 1) := by decide +kernel
theorem dX11_keep_68 : decode cX11_keep 68 = .ok (.iastore, 1) := by decide +kernel
theorem dX11_keep_69 : decode cX11_keep 69 = .ok (.aload_n 0, 1) := by decide +kernel
theorem dX11_keep_70 : decode cX11_keep 70 = .ok (.getfield 181, 3) := by decide +kernel
theorem dX11_keep_73 : decode cX11_keep 73 = .ok (.bipush 36, 2) := by decide +kernel
theorem dX11_keep_75 : decode cX11_keep 75 = .ok (.iload_n 1, 1) := by decide +kernel
theorem dX11_keep_76 : decode cX11_keep 76 = .ok (.iadd, 1) := by decide +kernel
theorem dX11_keep_77 : decode cX11_keep 77 = .ok (.aload_n 0, 1) := by decide +kernel
theorem dX11_keep_78 : decode cX11_keep 78 = .ok (.getfield 118, 3) := by decide +kernel
theorem dX11_keep_81 : decode cX11_keep 81 = .ok (.iload_n 1, 1) := by decide +kernel
theorem dX11_keep_82 : decode cX11_keep 82 = .ok (.iaload, 1) := by decide +kernel
theorem dX11_keep_83 : decode cX11_keep 83 = .ok (.iastore, 1) := by decide +kernel
theorem dX11_keep_84 : decode cX11_keep 84 = .ok (.aload_n 0, 1) := by decide +kernel
theorem dX11_keep_85 : decode cX11_keep 85 = .ok (.getfield 181, 3) := by decide +kernel
theorem dX11_keep_88 : decode cX11_keep 88 = .ok (.bipush 48, 2) := by decide +kernel
theorem dX11_keep_90 : decode cX11_keep 90 = .ok (.iload_n 1, 1) := by decide +kernel
theorem dX11_keep_91 : decode cX11_keep 91 = .ok (.iadd, 1) := by decide +kernel
theorem dX11_keep_92 : decode cX11_keep 92 = .ok (.aload_n 0, 1) := by decide +kernel
theorem dX11_keep_93 : decode cX11_keep 93 = .ok (.getfield 121, 3) := by decide +kernel
theorem dX11_keep_96 : decode cX11_keep 96 = .ok (.iload_n 1, 1) := by decide +kernel
theorem dX11_keep_97 : decode cX11_keep 97 = .ok (.iaload, 1) := by decide +kernel
theorem dX11_keep_98 : decode cX11_keep 98 = .ok (.iastore, 1) := by decide +kernel
theorem dX11_keep_99 : decode cX11_keep 99 = .ok (.aload_n 0, 1) := by decide +kernel
theorem dX11_keep_100 : decode cX11_keep 100 = .ok (.getfield 181, 3) := by decide +kernel
theorem dX11_keep_103 : decode cX11_keep 103 = .ok (.bipush 60, 2) := by decide +kernel
theorem dX11_keep_105 : decode cX11_keep 105 = .ok (.iload_n 1, 1) := by decide +kernel
theorem dX11_keep_106 : decode cX11_keep 106 = .ok (.iadd, 1) := by decide +kernel
theorem dX11_keep_107 : decode cX11_keep 107 = .ok (.aload_n 0, 1) := by decide +kernel
theorem dX11_keep_108 : decode cX11_keep 108 = .ok (.getfield 124, 3) := by decide +kernel
theorem dX11_keep_111 : decode cX11_keep 111 = .ok (.iload_n 1, 1) := by decide +kernel
theorem dX11_keep_112 : decode cX11_keep 112 = .ok (.iaload, 1) := by decide +kernel
theorem dX11_keep_113 : decode cX11_keep 113 = .ok (.sipush 1000, 3) := by decide +kernel
theorem dX11_keep_116 : decode cX11_keep 116 = .ok (.aload_n 0, 1) := by decide +kernel
theorem dX11_keep_117 : decode cX11_keep 117 = .ok (.getfield 133, 3) := by decide +kernel
theorem dX11_keep_120 : decode cX11_keep 120 = .ok (.iload_n 1, 1) := by decide +kernel
theorem dX11_keep_121 : decode cX11_keep 121 = .ok (.iaload, 1) := by decide +kernel
theorem dX11_keep_122 : decode cX11_keep 122 = .ok (.imul, 1) := by decide +kernel
theorem dX11_keep_123 : decode cX11_keep 123 = .ok (.iadd, 1) := by decide +kernel
theorem dX11_keep_124 : decode cX11_keep 124 = .ok (.iastore, 1) := by decide +kernel
theorem dX11_keep_125 : decode cX11_keep 125 = .ok (.iinc 1 1, 3) := by decide +kernel
theorem dX11_keep_128 : decode cX11_keep 128 = .ok (.goto (-107), 3) := by decide +kernel
theorem dX11_keep_131 : decode cX11_keep 131 = .ok (.iconst 0, 1) := by decide +kernel
theorem dX11_keep_132 : decode cX11_keep 132 = .ok (.istore_n 1, 1) := by decide +kernel
theorem dX11_keep_133 : decode cX11_keep 133 = .ok (.iload_n 1, 1) := by decide +kernel
theorem dX11_keep_134 : decode cX11_keep 134 = .ok (.bipush 8, 2) := by decide +kernel
theorem dX11_keep_136 : decode cX11_keep 136 = .ok (.if_icmp .ge 21, 3) := by decide +kernel
theorem dX11_keep_139 : decode cX11_keep 139 = .ok (.aload_n 0, 1) := by decide +kernel
theorem dX11_keep_140 : decode cX11_keep 140 = .ok (.getfield 184, 3) := by decide +kernel
theorem dX11_keep_143 : decode cX11_keep 143 = .ok (.iload_n 1, 1) := by decide +kernel
theorem dX11_keep_144 : decode cX11_keep 144 = .ok (.aload_n 0, 1) := by decide +kernel
theorem dX11_keep_145 : decode cX11_keep 145 = .ok (.getfield 136, 3) := by decide +kernel
theorem dX11_keep_148 : decode cX11_keep 148 = .ok (.iload_n 1, 1) := by decide +kernel
theorem dX11_keep_149 : decode cX11_keep 149 = .ok (.iaload, 1) := by decide +kernel
theorem dX11_keep_150 : decode cX11_keep 150 = .ok (.iastore, 1) := by decide +kernel
theorem dX11_keep_151 : decode cX11_keep 151 = .ok (.iinc 1 1, 3) := by decide +kernel
theorem dX11_keep_154 : decode cX11_keep 154 = .ok (.goto (-21), 3) := by decide +kernel
theorem dX11_keep_157 : decode cX11_keep 157 = .ok (.aload_n 0, 1) := by decide +kernel
theorem dX11_keep_158 : decode cX11_keep 158 = .ok (.aload_n 0, 1) := by decide +kernel
theorem dX11_keep_159 : decode cX11_keep 159 = .ok (.getfield 139, 3) := by decide +kernel
theorem dX11_keep_162 : decode cX11_keep 162 = .ok (.iconst 0, 1) := by decide +kernel
theorem dX11_keep_163 : decode cX11_keep 163 = .ok (.iaload, 1) := by decide +kernel
theorem dX11_keep_164 : decode cX11_keep 164 = .ok (.putfield 554, 3) := by decide +kernel
theorem dX11_keep_167 : decode cX11_keep 167 = .ok (.aload_n 0, 1) := by decide +kernel
theorem dX11_keep_168 : decode cX11_keep 168 = .ok (.aload_n 0, 1) := by decide +kernel
theorem dX11_keep_169 : decode cX11_keep 169 = .ok (.getfield 393, 3) := by decide +kernel
theorem dX11_keep_172 : decode cX11_keep 172 = .ok (.putfield 557, 3) := by decide +kernel
theorem dX11_keep_175 : decode cX11_keep 175 = .ok (.aload_n 0, 1) := by decide +kernel
theorem dX11_keep_176 : decode cX11_keep 176 = .ok (.getfield 139, 3) := by decide +kernel
theorem dX11_keep_179 : decode cX11_keep 179 = .ok (.iconst 0, 1) := by decide +kernel
theorem dX11_keep_180 : decode cX11_keep 180 = .ok (.iaload, 1) := by decide +kernel
theorem dX11_keep_181 : decode cX11_keep 181 = .ok (.ireturn, 1) := by decide +kernel
theorem dX11_back_0 : decode cX11_back 0 = .ok (.aload_n 0, 1) := by decide +kernel
theorem dX11_back_1 : decode cX11_back 1 = .ok (.iconst 0, 1) := by decide +kernel
theorem dX11_back_2 : decode cX11_back 2 = .ok (.putfield 193, 3) := by decide +kernel
theorem dX11_back_5 : decode cX11_back 5 = .ok (.aload_n 0, 1) := by decide +kernel
theorem dX11_back_6 : decode cX11_back 6 = .ok (.getfield 406, 3) := by decide +kernel
theorem dX11_back_9 : decode cX11_back 9 = .ok (.ifCond .ne 5, 3) := by decide +kernel
theorem dX11_back_12 : decode cX11_back 12 = .ok (.iconst (-1), 1) := by decide +kernel
theorem dX11_back_13 : decode cX11_back 13 = .ok (.ireturn, 1) := by decide +kernel
theorem dX11_back_14 : decode cX11_back 14 = .ok (.aload_n 0, 1) := by decide +kernel
theorem dX11_back_15 : decode cX11_back 15 = .ok (.aload_n 0, 1) := by decide +kernel
theorem dX11_back_16 : decode cX11_back 16 = .ok (.getfield 178, 3) := by decide +kernel
theorem dX11_back_19 : decode cX11_back 19 = .ok (.iconst 0, 1) := by decide +kernel
theorem dX11_back_20 : decode cX11_back 20 = .ok (.invokevirtual 551, 3) := by decide +kernel
theorem dX11_back_23 : decode cX11_back 23 = .ok (.iconst 0, 1) := by decide +kernel
theorem dX11_back_24 : decode cX11_back 24 = .ok (.istore_n 1, 1) := by decide +kernel
theorem dX11_back_25 : decode cX11_back 25 = .ok (.iload_n 1, 1) := by decide +kernel
theorem dX11_back_26 : decode cX11_back 26 = .ok (.bipush 12, 2) := by decide +kernel
theorem dX11_back_28 : decode cX11_back 28 = .ok (.if_icmp .ge 119, 3) := by decide +kernel
theorem dX11_back_31 : decode cX11_back 31 = .ok (.aload_n 0, 1) := by decide +kernel
theorem dX11_back_32 : decode cX11_back 32 = .ok (.getfield 109, 3) := by decide +kernel
theorem dX11_back_35 : decode cX11_back 35 = .ok (.iload_n 1, 1) := by decide +kernel
theorem dX11_back_36 : decode cX11_back 36 = .ok (.aload_n 0, 1) := by decide +kernel
theorem dX11_back_37 : decode cX11_back 37 = .ok (.getfield 181, 3) := by decide +kernel
theorem dX11_back_40 : decode cX11_back 40 = .ok (.iload_n 1, 1) := by decide +kernel
theorem dX11_back_41 : decode cX11_back 41 = .ok (.iaload, 1) := by decide +kernel
theorem dX11_back_42 : decode cX11_back 42 = .ok (.iastore, 1) := by decide +kernel
theorem dX11_back_43 : decode cX11_back 43 = .ok (.aload_n 0, 1) := by decide +kernel
theorem dX11_back_44 : decode cX11_back 44 = .ok (.getfield 112, 3) := by decide +kernel
theorem dX11_back_47 : decode cX11_back 47 = .ok (.iload_n 1, 1) := by decide +kernel
theorem dX11_back_48 : decode cX11_back 48 = .ok (.aload_n 0, 1) := by decide +kernel
theorem dX11_back_49 : decode cX11_back 49 = .ok (.getfield 181, 3) := by decide +kernel
theorem dX11_back_52 : decode cX11_back 52 = .ok (.bipush 12, 2) := by decide +kernel
theorem dX11_back_54 : decode cX11_back 54 = .ok (.iload_n 1, 1) := by decide +kernel
theorem dX11_back_55 : decode cX11_back 55 = .ok (.iadd, 1) := by decide +kernel
theorem dX11_back_56 : decode cX11_back 56 = .ok (.iaload, 1) := by decide +kernel
theorem dX11_back_57 : decode cX11_back 57 = .ok (.iastore, 1) := by decide +kernel
theorem dX11_back_58 : decode cX11_back 58 = .ok (.aload_n 0, 1) := by decide +kernel
theorem dX11_back_59 : decode cX11_back 59 = .ok (.getfield 115, 3) := by decide +kernel
theorem dX11_back_62 : decode cX11_back 62 = .ok (.iload_n 1, 1) := by decide +kernel
theorem dX11_back_63 : decode cX11_back 63 = .ok (.aload_n 0, 1) := by decide +kernel
theorem dX11_back_64 : decode cX11_back 64 = .ok (.getfield 181, 3) := by decide +kernel
theorem dX11_back_67 : decode cX11_back 67 = .ok (.bipush 24, 2) := by decide +kernel
theorem dX11_back_69 : decode cX11_back 69 = .ok (.iload_n 1, 1) := by decide +kernel
theorem dX11_back_70 : decode cX11_back 70 = .ok (.iadd, 1) := by decide +kernel
theorem dX11_back_71 : decode cX11_back 71 = .ok (.iaload, 1) := by decide +kernel
theorem dX11_back_72 : decode cX11_back 72 = .ok (.iastore, 1) := by decide +kernel
theorem dX11_back_73 : decode cX11_back 73 = .ok (.aload_n 0, 1) := by decide +kernel
theorem dX11_back_74 : decode cX11_back 74 = .ok (.getfield 118, 3) := by decide +kernel
theorem dX11_back_77 : decode cX11_back 77 = .ok (.iload_n 1, 1) := by decide +kernel
theorem dX11_back_78 : decode cX11_back 78 = .ok (.aload_n 0, 1) := by decide +kernel
theorem dX11_back_79 : decode cX11_back 79 = .ok (.getfield 181, 3) := by decide +kernel
theorem dX11_back_82 : decode cX11_back 82 = .ok (.bipush 36, 2) := by decide +kernel
theorem dX11_back_84 : decode cX11_back 84 = .ok (.iload_n 1, 1) := by decide +kernel
theorem dX11_back_85 : decode cX11_back 85 = .ok (.iadd, 1) := by decide +kernel
theorem dX11_back_86 : decode cX11_back 86 = .ok (.iaload, 1) := by decide +kernel
theorem dX11_back_87 : decode cX11_back 87 = .ok (.iastore, 1) := by decide +kernel
theorem dX11_back_88 : decode cX11_back 88 = .ok (.aload_n 0, 1) := by decide +kernel
theorem dX11_back_89 : decode cX11_back 89 = .ok (.getfield 121, 3) := by decide +kernel
theorem dX11_back_92 : decode cX11_back 92 = .ok (.iload_n 1, 1) := by decide +kernel
theorem dX11_back_93 : decode cX11_back 93 = .ok (.aload_n 0, 1) := by decide +kernel
theorem dX11_back_94 : decode cX11_back 94 = .ok (.getfield 181, 3) := by decide +kernel
theorem dX11_back_97 : decode cX11_back 97 = .ok (.bipush 48, 2) := by decide +kernel
theorem dX11_back_99 : decode cX11_back 99 = .ok (.iload_n 1, 1) := by decide +kernel
theorem dX11_back_100 : decode cX11_back 100 = .ok (.iadd, 1) := by decide +kernel
theorem dX11_back_101 : decode cX11_back 101 = .ok (.iaload, 1) := by decide +kernel
theorem dX11_back_102 : decode cX11_back 102 = .ok (.iastore, 1) := by decide +kernel
theorem dX11_back_103 : decode cX11_back 103 = .ok (.aload_n 0, 1) := by decide +kernel
theorem dX11_back_104 : decode cX11_back 104 = .ok (.getfield 124, 3) := by decide +kernel
theorem dX11_back_107 : decode cX11_back 107 = .ok (.iload_n 1, 1) := by decide +kernel
theorem dX11_back_108 : decode cX11_back 108 = .ok (.aload_n 0, 1) := by decide +kernel
theorem dX11_back_109 : decode cX11_back 109 = .ok (.getfield 181, 3) := by decide +kernel
theorem dX11_back_112 : decode cX11_back 112 = .ok (.bipush 60, 2) := by decide +kernel
theorem dX11_back_114 : decode cX11_back 114 = .ok (.iload_n 1, 1) := by decide +kernel
theorem dX11_back_115 : decode cX11_back 115 = .ok (.iadd, 1) := by decide +kernel
theorem dX11_back_116 : decode cX11_back 116 = .ok (.iaload, 1) := by decide +kernel
theorem dX11_back_117 : decode cX11_back 117 = .ok (.sipush 1000, 3) := by decide +kernel
theorem dX11_back_120 : decode cX11_back 120 = .ok (.irem, 1) := by decide +kernel
theorem dX11_back_121 : decode cX11_back 121 = .ok (.iastore, 1) := by decide +kernel
theorem dX11_back_122 : decode cX11_back 122 = .ok (.aload_n 0, 1) := by decide +kernel
theorem dX11_back_123 : decode cX11_back 123 = .ok (.getfield 133, 3) := by decide +kernel
theorem dX11_back_126 : decode cX11_back 126 = .ok (.iload_n 1, 1) := by decide +kernel
theorem dX11_back_127 : decode cX11_back 127 = .ok (.aload_n 0, 1) := by decide +kernel
theorem dX11_back_128 : decode cX11_back 128 = .ok (.getfield 181, 3) := by decide +kernel
theorem dX11_back_131 : decode cX11_back 131 = .ok (.bipush 60, 2) := by decide +kernel
theorem dX11_back_133 : decode cX11_back 133 = .ok (.iload_n 1, 1) := by decide +kernel
theorem dX11_back_134 : decode cX11_back 134 = .ok (.iadd, 1) := by decide +kernel
theorem dX11_back_135 : decode cX11_back 135 = .ok (.iaload, 1) := by decide +kernel
theorem dX11_back_136 : decode cX11_back 136 = .ok (.sipush 1000, 3) := by decide +kernel
theorem dX11_back_139 : decode cX11_back 139 = .ok (.idiv, 1) := by decide +kernel
theorem dX11_back_140 : decode cX11_back 140 = .ok (.iastore, 1) := by decide +kernel
theorem dX11_back_141 : decode cX11_back 141 = .ok (.iinc 1 1, 3) := by decide +kernel
theorem dX11_back_144 : decode cX11_back 144 = .ok (.goto (-119), 3) := by decide +kernel
theorem dX11_back_147 : decode cX11_back 147 = .ok (.iconst 0, 1) := by decide +kernel
theorem dX11_back_148 : decode cX11_back 148 = .ok (.istore_n 1, 1) := by decide +kernel
theorem dX11_back_149 : decode cX11_back 149 = .ok (.iload_n 1, 1) := by decide +kernel
theorem dX11_back_150 : decode cX11_back 150 = .ok (.bipush 8, 2) := by decide +kernel
theorem dX11_back_152 : decode cX11_back 152 = .ok (.if_icmp .ge 21, 3) := by decide +kernel
theorem dX11_back_155 : decode cX11_back 155 = .ok (.aload_n 0, 1) := by decide +kernel
theorem dX11_back_156 : decode cX11_back 156 = .ok (.getfield 136, 3) := by decide +kernel
theorem dX11_back_159 : decode cX11_back 159 = .ok (.iload_n 1, 1) := by decide +kernel
theorem dX11_back_160 : decode cX11_back 160 = .ok (.aload_n 0, 1) := by decide +kernel
theorem dX11_back_161 : decode cX11_back 161 = .ok (.getfield 184, 3) := by decide +kernel
theorem dX11_back_164 : decode cX11_back 164 = .ok (.iload_n 1, 1) := by decide +kernel
theorem dX11_back_165 : decode cX11_back 165 = .ok (.iaload, 1) := by decide +kernel
theorem dX11_back_166 : decode cX11_back 166 = .ok (.iastore, 1) := by decide +kernel
theorem dX11_back_167 : decode cX11_back 167 = .ok (.iinc 1 1, 3) := by decide +kernel
theorem dX11_back_170 : decode cX11_back 170 = .ok (.goto (-21), 3) := by decide +kernel
theorem dX11_back_173 : decode cX11_back 173 = .ok (.aload_n 0, 1) := by decide +kernel
theorem dX11_back_174 : decode cX11_back 174 = .ok (.getfield 139, 3) := by decide +kernel
theorem dX11_back_177 : decode cX11_back 177 = .ok (.iconst 0, 1) := by decide +kernel
theorem dX11_back_178 : decode cX11_back 178 = .ok (.aload_n 0, 1) := by decide +kernel
theorem dX11_back_179 : decode cX11_back 179 = .ok (.getfield 554, 3) := by decide +kernel
theorem dX11_back_182 : decode cX11_back 182 = .ok (.iastore, 1) := by decide +kernel
theorem dX11_back_183 : decode cX11_back 183 = .ok (.aload_n 0, 1) := by decide +kernel
theorem dX11_back_184 : decode cX11_back 184 = .ok (.aload_n 0, 1) := by decide +kernel
theorem dX11_back_185 : decode cX11_back 185 = .ok (.getfield 557, 3) := by decide +kernel
theorem dX11_back_188 : decode cX11_back 188 = .ok (.putfield 393, 3) := by decide +kernel
theorem dX11_back_191 : decode cX11_back 191 = .ok (.aload_n 0, 1) := by decide +kernel
theorem dX11_back_192 : decode cX11_back 192 = .ok (.iconst 0, 1) := by decide +kernel
theorem dX11_back_193 : decode cX11_back 193 = .ok (.putfield 403, 3) := by decide +kernel
theorem dX11_back_196 : decode cX11_back 196 = .ok (.aload_n 0, 1) := by decide +kernel
theorem dX11_back_197 : decode cX11_back 197 = .ok (.getfield 139, 3) := by decide +kernel
theorem dX11_back_200 : decode cX11_back 200 = .ok (.iconst 0, 1) := by decide +kernel
theorem dX11_back_201 : decode cX11_back 201 = .ok (.iaload, 1) := by decide +kernel
theorem dX11_back_202 : decode cX11_back 202 = .ok (.ireturn, 1) := by decide +kernel
theorem dX11_manyHow_0 : decode cX11_manyHow 0 = .ok (.iconst 0, 1) := by decide +kernel
theorem dX11_manyHow_1 : decode cX11_manyHow 1 = .ok (.istore_n 2, 1) := by decide +kernel
theorem dX11_manyHow_2 : decode cX11_manyHow 2 = .ok (.iconst 0, 1) := by decide +kernel
theorem dX11_manyHow_3 : decode cX11_manyHow 3 = .ok (.istore_n 3, 1) := by decide +kernel
theorem dX11_manyHow_4 : decode cX11_manyHow 4 = .ok (.iload_n 3, 1) := by decide +kernel
theorem dX11_manyHow_5 : decode cX11_manyHow 5 = .ok (.aload_n 0, 1) := by decide +kernel
theorem dX11_manyHow_6 : decode cX11_manyHow 6 = .ok (.getfield 106, 3) := by decide +kernel
theorem dX11_manyHow_9 : decode cX11_manyHow 9 = .ok (.iconst 0, 1) := by decide +kernel
theorem dX11_manyHow_10 : decode cX11_manyHow 10 = .ok (.iaload, 1) := by decide +kernel
theorem dX11_manyHow_11 : decode cX11_manyHow 11 = .ok (.if_icmp .ge 27, 3) := by decide +kernel
theorem dX11_manyHow_14 : decode cX11_manyHow 14 = .ok (.iload_n 2, 1) := by decide +kernel
theorem dX11_manyHow_15 : decode cX11_manyHow 15 = .ok (.aload_n 0, 1) := by decide +kernel
theorem dX11_manyHow_16 : decode cX11_manyHow 16 = .ok (.getfield 127, 3) := by decide +kernel
theorem dX11_manyHow_19 : decode cX11_manyHow 19 = .ok (.iload_n 3, 1) := by decide +kernel
theorem dX11_manyHow_20 : decode cX11_manyHow 20 = .ok (.iaload, 1) := by decide +kernel
theorem dX11_manyHow_21 : decode cX11_manyHow 21 = .ok (.iload_n 1, 1) := by decide +kernel
theorem dX11_manyHow_22 : decode cX11_manyHow 22 = .ok (.if_icmp .ne 7, 3) := by decide +kernel
theorem dX11_manyHow_25 : decode cX11_manyHow 25 = .ok (.iconst 1, 1) := by decide +kernel
theorem dX11_manyHow_26 : decode cX11_manyHow 26 = .ok (.goto 4, 3) := by decide +kernel
theorem dX11_manyHow_29 : decode cX11_manyHow 29 = .ok (.iconst 0, 1) := by decide +kernel
theorem dX11_manyHow_30 : decode cX11_manyHow 30 = .ok (.iadd, 1) := by decide +kernel
theorem dX11_manyHow_31 : decode cX11_manyHow 31 = .ok (.istore_n 2, 1) := by decide +kernel
theorem dX11_manyHow_32 : decode cX11_manyHow 32 = .ok (.iinc 3 1, 3) := by decide +kernel
theorem dX11_manyHow_35 : decode cX11_manyHow 35 = .ok (.goto (-31), 3) := by decide +kernel
theorem dX11_manyHow_38 : decode cX11_manyHow 38 = .ok (.iload_n 2, 1) := by decide +kernel
theorem dX11_manyHow_39 : decode cX11_manyHow 39 = .ok (.ireturn, 1) := by decide +kernel
theorem dX11_manyMade_0 : decode cX11_manyMade 0 = .ok (.iconst 0, 1) := by decide +kernel
theorem dX11_manyMade_1 : decode cX11_manyMade 1 = .ok (.istore_n 2, 1) := by decide +kernel
theorem dX11_manyMade_2 : decode cX11_manyMade 2 = .ok (.iconst 0, 1) := by decide +kernel
theorem dX11_manyMade_3 : decode cX11_manyMade 3 = .ok (.istore_n 3, 1) := by decide +kernel
theorem dX11_manyMade_4 : decode cX11_manyMade 4 = .ok (.iload_n 3, 1) := by decide +kernel
theorem dX11_manyMade_5 : decode cX11_manyMade 5 = .ok (.aload_n 0, 1) := by decide +kernel
theorem dX11_manyMade_6 : decode cX11_manyMade 6 = .ok (.getfield 276, 3) := by decide +kernel
theorem dX11_manyMade_9 : decode cX11_manyMade 9 = .ok (.if_icmp .ge 27, 3) := by decide +kernel
theorem dX11_manyMade_12 : decode cX11_manyMade 12 = .ok (.iload_n 2, 1) := by decide +kernel
theorem dX11_manyMade_13 : decode cX11_manyMade 13 = .ok (.aload_n 0, 1) := by decide +kernel
theorem dX11_manyMade_14 : decode cX11_manyMade 14 = .ok (.getfield 136, 3) := by decide +kernel
theorem dX11_manyMade_17 : decode cX11_manyMade 17 = .ok (.iload_n 3, 1) := by decide +kernel
theorem dX11_manyMade_18 : decode cX11_manyMade 18 = .ok (.iaload, 1) := by decide +kernel
theorem dX11_manyMade_19 : decode cX11_manyMade 19 = .ok (.iload_n 1, 1) := by decide +kernel
theorem dX11_manyMade_20 : decode cX11_manyMade 20 = .ok (.if_icmp .ne 7, 3) := by decide +kernel
theorem dX11_manyMade_23 : decode cX11_manyMade 23 = .ok (.iconst 1, 1) := by decide +kernel
theorem dX11_manyMade_24 : decode cX11_manyMade 24 = .ok (.goto 4, 3) := by decide +kernel
theorem dX11_manyMade_27 : decode cX11_manyMade 27 = .ok (.iconst 0, 1) := by decide +kernel
theorem dX11_manyMade_28 : decode cX11_manyMade 28 = .ok (.iadd, 1) := by decide +kernel
theorem dX11_manyMade_29 : decode cX11_manyMade 29 = .ok (.istore_n 2, 1) := by decide +kernel
theorem dX11_manyMade_30 : decode cX11_manyMade 30 = .ok (.iinc 3 1, 3) := by decide +kernel
theorem dX11_manyMade_33 : decode cX11_manyMade 33 = .ok (.goto (-29), 3) := by decide +kernel
theorem dX11_manyMade_36 : decode cX11_manyMade 36 = .ok (.iload_n 2, 1) := by decide +kernel
theorem dX11_manyMade_37 : decode cX11_manyMade 37 = .ok (.ireturn, 1) := by decide +kernel
theorem dX11_count_0 : decode cX11_count 0 = .ok (.aload_n 0, 1) := by decide +kernel
theorem dX11_count_1 : decode cX11_count 1 = .ok (.iconst 0, 1) := by decide +kernel
theorem dX11_count_2 : decode cX11_count 2 = .ok (.putfield 193, 3) := by decide +kernel
theorem dX11_count_5 : decode cX11_count 5 = .ok (.iload_n 1, 1) := by decide +kernel
theorem dX11_count_6 : decode cX11_count 6 = .ok (.tableswitch 172 0 15 #[78, 83, 90, 96, 102, 108, 114, 119, 125, 131, 136, 143, 150, 157, 162, 167], 78) := by decide +kernel
theorem dX11_count_84 : decode cX11_count 84 = .ok (.aload_n 0, 1) := by decide +kernel
theorem dX11_count_85 : decode cX11_count 85 = .ok (.getfield 270, 3) := by decide +kernel
theorem dX11_count_88 : decode cX11_count 88 = .ok (.ireturn, 1) := by decide +kernel
theorem dX11_count_89 : decode cX11_count 89 = .ok (.aload_n 0, 1) := by decide +kernel
theorem dX11_count_90 : decode cX11_count 90 = .ok (.getfield 106, 3) := by decide +kernel
theorem dX11_count_93 : decode cX11_count 93 = .ok (.iconst 0, 1) := by decide +kernel
theorem dX11_count_94 : decode cX11_count 94 = .ok (.iaload, 1) := by decide +kernel
theorem dX11_count_95 : decode cX11_count 95 = .ok (.ireturn, 1) := by decide +kernel
theorem dX11_count_96 : decode cX11_count 96 = .ok (.aload_n 0, 1) := by decide +kernel
theorem dX11_count_97 : decode cX11_count 97 = .ok (.iconst 0, 1) := by decide +kernel
theorem dX11_count_98 : decode cX11_count 98 = .ok (.invokevirtual 560, 3) := by decide +kernel
theorem dX11_count_101 : decode cX11_count 101 = .ok (.ireturn, 1) := by decide +kernel
theorem dX11_count_102 : decode cX11_count 102 = .ok (.aload_n 0, 1) := by decide +kernel
theorem dX11_count_103 : decode cX11_count 103 = .ok (.iconst 1, 1) := by decide +kernel
theorem dX11_count_104 : decode cX11_count 104 = .ok (.invokevirtual 560, 3) := by decide +kernel
theorem dX11_count_107 : decode cX11_count 107 = .ok (.ireturn, 1) := by decide +kernel
theorem dX11_count_108 : decode cX11_count 108 = .ok (.aload_n 0, 1) := by decide +kernel
theorem dX11_count_109 : decode cX11_count 109 = .ok (.iconst 2, 1) := by decide +kernel
theorem dX11_count_110 : decode cX11_count 110 = .ok (.invokevirtual 560, 3) := by decide +kernel
theorem dX11_count_113 : decode cX11_count 113 = .ok (.ireturn, 1) := by decide +kernel
theorem dX11_count_114 : decode cX11_count 114 = .ok (.aload_n 0, 1) := by decide +kernel
theorem dX11_count_115 : decode cX11_count 115 = .ok (.iconst 3, 1) := by decide +kernel
theorem dX11_count_116 : decode cX11_count 116 = .ok (.invokevirtual 560, 3) := by decide +kernel
theorem dX11_count_119 : decode cX11_count 119 = .ok (.ireturn, 1) := by decide +kernel
theorem dX11_count_120 : decode cX11_count 120 = .ok (.aload_n 0, 1) := by decide +kernel
theorem dX11_count_121 : decode cX11_count 121 = .ok (.getfield 276, 3) := by decide +kernel
theorem dX11_count_124 : decode cX11_count 124 = .ok (.ireturn, 1) := by decide +kernel
theorem dX11_count_125 : decode cX11_count 125 = .ok (.aload_n 0, 1) := by decide +kernel
theorem dX11_count_126 : decode cX11_count 126 = .ok (.iconst 1, 1) := by decide +kernel
theorem dX11_count_127 : decode cX11_count 127 = .ok (.invokevirtual 563, 3) := by decide +kernel
theorem dX11_count_130 : decode cX11_count 130 = .ok (.ireturn, 1) := by decide +kernel
theorem dX11_count_131 : decode cX11_count 131 = .ok (.aload_n 0, 1) := by decide +kernel
theorem dX11_count_132 : decode cX11_count 132 = .ok (.iconst 2, 1) := by decide +kernel
theorem dX11_count_133 : decode cX11_count 133 = .ok (.invokevirtual 563, 3) := by decide +kernel
theorem dX11_count_136 : decode cX11_count 136 = .ok (.ireturn, 1) := by decide +kernel
theorem dX11_count_137 : decode cX11_count 137 = .ok (.aload_n 0, 1) := by decide +kernel
theorem dX11_count_138 : decode cX11_count 138 = .ok (.getfield 279, 3) := by decide +kernel
theorem dX11_count_141 : decode cX11_count 141 = .ok (.ireturn, 1) := by decide +kernel
theorem dX11_count_142 : decode cX11_count 142 = .ok (.aload_n 0, 1) := by decide +kernel
theorem dX11_count_143 : decode cX11_count 143 = .ok (.getfield 139, 3) := by decide +kernel
theorem dX11_count_146 : decode cX11_count 146 = .ok (.iconst 0, 1) := by decide +kernel
theorem dX11_count_147 : decode cX11_count 147 = .ok (.iaload, 1) := by decide +kernel
theorem dX11_count_148 : decode cX11_count 148 = .ok (.ireturn, 1) := by decide +kernel
theorem dX11_count_149 : decode cX11_count 149 = .ok (.aload_n 0, 1) := by decide +kernel
theorem dX11_count_150 : decode cX11_count 150 = .ok (.iconst (-1), 1) := by decide +kernel
theorem dX11_count_151 : decode cX11_count 151 = .ok (.iconst (-1), 1) := by decide +kernel
theorem dX11_count_152 : decode cX11_count 152 = .ok (.invokevirtual 462, 3) := by decide +kernel
theorem dX11_count_155 : decode cX11_count 155 = .ok (.ireturn, 1) := by decide +kernel
theorem dX11_count_156 : decode cX11_count 156 = .ok (.aload_n 0, 1) := by decide +kernel
theorem dX11_count_157 : decode cX11_count 157 = .ok (.getfield 142, 3) := by decide +kernel
theorem dX11_count_160 : decode cX11_count 160 = .ok (.iconst 0, 1) := by decide +kernel
theorem dX11_count_161 : decode cX11_count 161 = .ok (.iaload, 1) := by decide +kernel
theorem dX11_count_162 : decode cX11_count 162 = .ok (.ireturn, 1) := by decide +kernel
theorem dX11_count_163 : decode cX11_count 163 = .ok (.aload_n 0, 1) := by decide +kernel
theorem dX11_count_164 : decode cX11_count 164 = .ok (.getfield 400, 3) := by decide +kernel
theorem dX11_count_167 : decode cX11_count 167 = .ok (.ireturn, 1) := by decide +kernel
theorem dX11_count_168 : decode cX11_count 168 = .ok (.aload_n 0, 1) := by decide +kernel
theorem dX11_count_169 : decode cX11_count 169 = .ok (.invokevirtual 519, 3) := by decide +kernel
theorem dX11_count_172 : decode cX11_count 172 = .ok (.ireturn, 1) := by decide +kernel
theorem dX11_count_173 : decode cX11_count 173 = .ok (.aload_n 0, 1) := by decide +kernel
theorem dX11_count_174 : decode cX11_count 174 = .ok (.getfield 403, 3) := by decide +kernel
theorem dX11_count_177 : decode cX11_count 177 = .ok (.ireturn, 1) := by decide +kernel
theorem dX11_count_178 : decode cX11_count 178 = .ok (.iconst (-1), 1) := by decide +kernel
theorem dX11_count_179 : decode cX11_count 179 = .ok (.ireturn, 1) := by decide +kernel
