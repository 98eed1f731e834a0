theorem dX0_init_0 : decode cX0_init 0 = .ok (.aload_n 0, 1) := by decide +kernel
theorem dX0_init_1 : decode cX0_init 1 = .ok (.invokespecial 3, 3) := by decide +kernel
theorem dX0_init_4 : decode cX0_init 4 = .ok (.aload_n 0, 1) := by decide +kernel
theorem dX0_init_5 : decode cX0_init 5 = .ok (.bipush 6, 2) := by decide +kernel
theorem dX0_init_7 : decode cX0_init 7 = .ok (.newarray .int, 2) := by decide +kernel
theorem dX0_init_9 : decode cX0_init 9 = .ok (.putfield 9, 3) := by decide +kernel
theorem dX0_init_12 : decode cX0_init 12 = .ok (.aload_n 0, 1) := by decide +kernel
theorem dX0_init_13 : decode cX0_init 13 = .ok (.bipush 6, 2) := by decide +kernel
theorem dX0_init_15 : decode cX0_init 15 = .ok (.newarray .int, 2) := by decide +kernel
theorem dX0_init_17 : decode cX0_init 17 = .ok (.putfield 15, 3) := by decide +kernel
theorem dX0_init_20 : decode cX0_init 20 = .ok (.aload_n 0, 1) := by decide +kernel
theorem dX0_init_21 : decode cX0_init 21 = .ok (.bipush 12, 2) := by decide +kernel
theorem dX0_init_23 : decode cX0_init 23 = .ok (.newarray .int, 2) := by decide +kernel
theorem dX0_init_25 : decode cX0_init 25 = .ok (.putfield 18, 3) := by decide +kernel
theorem dX0_init_28 : decode cX0_init 28 = .ok (.aload_n 0, 1) := by decide +kernel
theorem dX0_init_29 : decode cX0_init 29 = .ok (.bipush 12, 2) := by decide +kernel
theorem dX0_init_31 : decode cX0_init 31 = .ok (.newarray .int, 2) := by decide +kernel
theorem dX0_init_33 : decode cX0_init 33 = .ok (.putfield 21, 3) := by decide +kernel
theorem dX0_init_36 : decode cX0_init 36 = .ok (.aload_n 0, 1) := by decide +kernel
theorem dX0_init_37 : decode cX0_init 37 = .ok (.bipush 12, 2) := by decide +kernel
theorem dX0_init_39 : decode cX0_init 39 = .ok (.newarray .int, 2) := by decide +kernel
theorem dX0_init_41 : decode cX0_init 41 = .ok (.putfield 24, 3) := by decide +kernel
theorem dX0_init_44 : decode cX0_init 44 = .ok (.aload_n 0, 1) := by decide +kernel
theorem dX0_init_45 : decode cX0_init 45 = .ok (.bipush 12, 2) := by decide +kernel
theorem dX0_init_47 : decode cX0_init 47 = .ok (.newarray .int, 2) := by decide +kernel
theorem dX0_init_49 : decode cX0_init 49 = .ok (.putfield 27, 3) := by decide +kernel
theorem dX0_init_52 : decode cX0_init 52 = .ok (.aload_n 0, 1) := by decide +kernel
theorem dX0_init_53 : decode cX0_init 53 = .ok (.bipush 12, 2) := by decide +kernel
theorem dX0_init_55 : decode cX0_init 55 = .ok (.newarray .int, 2) := by decide +kernel
theorem dX0_init_57 : decode cX0_init 57 = .ok (.putfield 30, 3) := by decide +kernel
theorem dX0_init_60 : decode cX0_init 60 = .ok (.aload_n 0, 1) := by decide +kernel
theorem dX0_init_61 : decode cX0_init 61 = .ok (.bipush 12, 2) := by decide +kernel
theorem dX0_init_63 : decode cX0_init 63 = .ok (.newarray .int, 2) := by decide +kernel
theorem dX0_init_65 : decode cX0_init 65 = .ok (.putfield 33, 3) := by decide +kernel
theorem dX0_init_68 : decode cX0_init 68 = .ok (.aload_n 0, 1) := by decide +kernel
theorem dX0_init_69 : decode cX0_init 69 = .ok (.bipush 12, 2) := by decide +kernel
theorem dX0_init_71 : decode cX0_init 71 = .ok (.newarray .int, 2) := by decide +kernel
theorem dX0_init_73 : decode cX0_init 73 = .ok (.putfield 36, 3) := by decide +kernel
theorem dX0_init_76 : decode cX0_init 76 = .ok (.aload_n 0, 1) := by decide +kernel
theorem dX0_init_77 : decode cX0_init 77 = .ok (.bipush 12, 2) := by decide +kernel
theorem dX0_init_79 : decode cX0_init 79 = .ok (.newarray .int, 2) := by decide +kernel
theorem dX0_init_81 : decode cX0_init 81 = .ok (.putfield 39, 3) := by decide +kernel
theorem dX0_init_84 : decode cX0_init 84 = .ok (.aload_n 0, 1) := by decide +kernel
theorem dX0_init_85 : decode cX0_init 85 = .ok (.bipush 8, 2) := by decide +kernel
theorem dX0_init_87 : decode cX0_init 87 = .ok (.newarray .int, 2) := by decide +kernel
theorem dX0_init_89 : decode cX0_init 89 = .ok (.putfield 42, 3) := by decide +kernel
theorem dX0_init_92 : decode cX0_init 92 = .ok (.aload_n 0, 1) := by decide +kernel
theorem dX0_init_93 : decode cX0_init 93 = .ok (.aload_n 1, 1) := by decide +kernel
theorem dX0_init_94 : decode cX0_init 94 = .ok (.invokevirtual 45, 3) := by decide +kernel
theorem dX0_init_97 : decode cX0_init 97 = .ok (.return_, 1) := by decide +kernel
theorem dX0_clear_0 : decode cX0_clear 0 = .ok (.aload_n 0, 1) := by decide +kernel
theorem dX0_clear_1 : decode cX0_clear 1 = .ok (.aload_n 1, 1) := by decide +kernel
theorem dX0_clear_2 : decode cX0_clear 2 = .ok (.putfield 49, 3) := by decide +kernel
theorem dX0_clear_5 : decode cX0_clear 5 = .ok (.iconst 0, 1) := by decide +kernel
theorem dX0_clear_6 : decode cX0_clear 6 = .ok (.istore_n 2, 1) := by decide +kernel
theorem dX0_clear_7 : decode cX0_clear 7 = .ok (.iload_n 2, 1) := by decide +kernel
theorem dX0_clear_8 : decode cX0_clear 8 = .ok (.bipush 8, 2) := by decide +kernel
theorem dX0_clear_10 : decode cX0_clear 10 = .ok (.if_icmp .ge 16, 3) := by decide +kernel
theorem dX0_clear_13 : decode cX0_clear 13 = .ok (.aload_n 0, 1) := by decide +kernel
theorem dX0_clear_14 : decode cX0_clear 14 = .ok (.getfield 42, 3) := by decide +kernel
theorem dX0_clear_17 : decode cX0_clear 17 = .ok (.iload_n 2, 1) := by decide +kernel
theorem dX0_clear_18 : decode cX0_clear 18 = .ok (.iconst 0, 1) := by decide +kernel
theorem dX0_clear_19 : decode cX0_clear 19 = .ok (.iastore, 1) := by decide +kernel
theorem dX0_clear_20 : decode cX0_clear 20 = .ok (.iinc 2 1, 3) := by decide +kernel
theorem dX0_clear_23 : decode cX0_clear 23 = .ok (.goto (-16), 3) := by decide +kernel
theorem dX0_clear_26 : decode cX0_clear 26 = .ok (.aload_n 0, 1) := by decide +kernel
theorem dX0_clear_27 : decode cX0_clear 27 = .ok (.iconst 0, 1) := by decide +kernel
theorem dX0_clear_28 : decode cX0_clear 28 = .ok (.putfield 53, 3) := by decide +kernel
theorem dX0_clear_31 : decode cX0_clear 31 = .ok (.aload_n 0, 1) := by decide +kernel
theorem dX0_clear_32 : decode cX0_clear 32 = .ok (.iconst 0, 1) := by decide +kernel
theorem dX0_clear_33 : decode cX0_clear 33 = .ok (.putfield 57, 3) := by decide +kernel
theorem dX0_clear_36 : decode cX0_clear 36 = .ok (.aload_n 0, 1) := by decide +kernel
theorem dX0_clear_37 : decode cX0_clear 37 = .ok (.iconst 0, 1) := by decide +kernel
theorem dX0_clear_38 : decode cX0_clear 38 = .ok (.putfield 60, 3) := by decide +kernel
theorem dX0_clear_41 : decode cX0_clear 41 = .ok (.aload_n 0, 1) := by decide +kernel
theorem dX0_clear_42 : decode cX0_clear 42 = .ok (.iconst 0, 1) := by decide +kernel
theorem dX0_clear_43 : decode cX0_clear 43 = .ok (.putfield 63, 3) := by decide +kernel
theorem dX0_clear_46 : decode cX0_clear 46 = .ok (.return_, 1) := by decide +kernel
theorem dX0_become_0 : decode cX0_become 0 = .ok (.aload_n 0, 1) := by decide +kernel
theorem dX0_become_1 : decode cX0_become 1 = .ok (.aload_n 1, 1) := by decide +kernel
theorem dX0_become_2 : decode cX0_become 2 = .ok (.getfield 49, 3) := by decide +kernel
theorem dX0_become_5 : decode cX0_become 5 = .ok (.putfield 49, 3) := by decide +kernel
theorem dX0_become_8 : decode cX0_become 8 = .ok (.aload_n 1, 1) := by decide +kernel
theorem dX0_become_9 : decode cX0_become 9 = .ok (.getfield 9, 3) := by decide +kernel
theorem dX0_become_12 : decode cX0_become 12 = .ok (.iconst 0, 1) := by decide +kernel
theorem dX0_become_13 : decode cX0_become 13 = .ok (.aload_n 0, 1) := by decide +kernel
theorem dX0_become_14 : decode cX0_become 14 = .ok (.getfield 9, 3) := by decide +kernel
theorem dX0_become_17 : decode cX0_become 17 = .ok (.iconst 0, 1) := by decide +kernel
theorem dX0_become_18 : decode cX0_become 18 = .ok (.bipush 6, 2) := by decide +kernel
theorem dX0_become_20 : decode cX0_become 20 = .ok (.invokestatic 66, 3) := by decide +kernel
theorem dX0_become_23 : decode cX0_become 23 = .ok (.aload_n 1, 1) := by decide +kernel
theorem dX0_become_24 : decode cX0_become 24 = .ok (.getfield 15, 3) := by decide +kernel
theorem dX0_become_27 : decode cX0_become 27 = .ok (.iconst 0, 1) := by decide +kernel
theorem dX0_become_28 : decode cX0_become 28 = .ok (.aload_n 0, 1) := by decide +kernel
theorem dX0_become_29 : decode cX0_become 29 = .ok (.getfield 15, 3) := by decide +kernel
theorem dX0_become_32 : decode cX0_become 32 = .ok (.iconst 0, 1) := by decide +kernel
theorem dX0_become_33 : decode cX0_become 33 = .ok (.bipush 6, 2) := by decide +kernel
theorem dX0_become_35 : decode cX0_become 35 = .ok (.invokestatic 66, 3) := by decide +kernel
theorem dX0_become_38 : decode cX0_become 38 = .ok (.aload_n 1, 1) := by decide +kernel
theorem dX0_become_39 : decode cX0_become 39 = .ok (.getfield 18, 3) := by decide +kernel
theorem dX0_become_42 : decode cX0_become 42 = .ok (.iconst 0, 1) := by decide +kernel
theorem dX0_become_43 : decode cX0_become 43 = .ok (.aload_n 0, 1) := by decide +kernel
theorem dX0_become_44 : decode cX0_become 44 = .ok (.getfield 18, 3) := by decide +kernel
theorem dX0_become_47 : decode cX0_become 47 = .ok (.iconst 0, 1) := by decide +kernel
theorem dX0_become_48 : decode cX0_become 48 = .ok (.bipush 12, 2) := by decide +kernel
theorem dX0_become_50 : decode cX0_become 50 = .ok (.invokestatic 66, 3) := by decide +kernel
theorem dX0_become_53 : decode cX0_become 53 = .ok (.aload_n 1, 1) := by decide +kernel
theorem dX0_become_54 : decode cX0_become 54 = .ok (.getfield 21, 3) := by decide +kernel
theorem dX0_become_57 : decode cX0_become 57 = .ok (.iconst 0, 1) := by decide +kernel
theorem dX0_become_58 : decode cX0_become 58 = .ok (.aload_n 0, 1) := by decide +kernel
theorem dX0_become_59 : decode cX0_become 59 = .ok (.getfield 21, 3) := by decide +kernel
theorem dX0_become_62 : decode cX0_become 62 = .ok (.iconst 0, 1) := by decide +kernel
theorem dX0_become_63 : decode cX0_become 63 = .ok (.bipush 12, 2) := by decide +kernel
theorem dX0_become_65 : decode cX0_become 65 = .ok (.invokestatic 66, 3) := by decide +kernel
theorem dX0_become_68 : decode cX0_become 68 = .ok (.aload_n 1, 1) := by decide +kernel
theorem dX0_become_69 : decode cX0_become 69 = .ok (.getfield 24, 3) := by decide +kernel
theorem dX0_become_72 : decode cX0_become 72 = .ok (.iconst 0, 1) := by decide +kernel
theorem dX0_become_73 : decode cX0_become 73 = .ok (.aload_n 0, 1) := by decide +kernel
theorem dX0_become_74 : decode cX0_become 74 = .ok (.getfield 24, 3) := by decide +kernel
theorem dX0_become_77 : decode cX0_become 77 = .ok (.iconst 0, 1) := by decide +kernel
theorem dX0_become_78 : decode cX0_become 78 = .ok (.bipush 12, 2) := by decide +kernel
theorem dX0_become_80 : decode cX0_become 80 = .ok (.invokestatic 66, 3) := by decide +kernel
theorem dX0_become_83 : decode cX0_become 83 = .ok (.aload_n 1, 1) := by decide +kernel
theorem dX0_become_84 : decode cX0_become 84 = .ok (.getfield 27, 3) := by decide +kernel
theorem dX0_become_87 : decode cX0_become 87 = .ok (.iconst 0, 1) := by decide +kernel
theorem dX0_become_88 : decode cX0_become 88 = .ok (.aload_n 0, 1) := by decide +kernel
theorem dX0_become_89 : decode cX0_become 89 = .ok (.getfield 27, 3) := by decide +kernel
theorem dX0_become_92 : decode cX0_become 92 = .ok (.iconst 0, 1) := by decide +kernel
theorem dX0_become_93 : decode cX0_become 93 = .ok (.bipush 12, 2) := by decide +kernel
theorem dX0_become_95 : decode cX0_become 95 = .ok (.invokestatic 66, 3) := by decide +kernel
theorem dX0_become_98 : decode cX0_become 98 = .ok (.aload_n 1, 1) := by decide +kernel
theorem dX0_become_99 : decode cX0_become 99 = .ok (.getfield 30, 3) := by decide +kernel
theorem dX0_become_102 : decode cX0_become 102 = .ok (.iconst 0, 1) := by decide +kernel
theorem dX0_become_103 : decode cX0_become 103 = .ok (.aload_n 0, 1) := by decide +kernel
theorem dX0_become_104 : decode cX0_become 104 = .ok (.getfield 30, 3) := by decide +kernel
theorem dX0_become_107 : decode cX0_become 107 = .ok (.iconst 0, 1) := by decide +kernel
theorem dX0_become_108 : decode cX0_become 108 = .ok (.bipush 12, 2) := by decide +kernel
theorem dX0_become_110 : decode cX0_become 110 = .ok (.invokestatic 66, 3) := by decide +kernel
theorem dX0_become_113 : decode cX0_become 113 = .ok (.aload_n 1, 1) := by decide +kernel
theorem dX0_become_114 : decode cX0_become 114 = .ok (.getfield 33, 3) := by decide +kernel
theorem dX0_become_117 : decode cX0_become 117 = .ok (.iconst 0, 1) := by decide +kernel
theorem dX0_become_118 : decode cX0_become 118 = .ok (.aload_n 0, 1) := by decide +kernel
theorem dX0_become_119 : decode cX0_become 119 = .ok (.getfield 33, 3) := by decide +kernel
theorem dX0_become_122 : decode cX0_become 122 = .ok (.iconst 0, 1) := by decide +kernel
theorem dX0_become_123 : decode cX0_become 123 = .ok (.bipush 12, 2) := by decide +kernel
theorem dX0_become_125 : decode cX0_become 125 = .ok (.invokestatic 66, 3) := by decide +kernel
theorem dX0_become_128 : decode cX0_become 128 = .ok (.aload_n 1, 1) := by decide +kernel
theorem dX0_become_129 : decode cX0_become 129 = .ok (.getfield 36, 3) := by decide +kernel
theorem dX0_become_132 : decode cX0_become 132 = .ok (.iconst 0, 1) := by decide +kernel
theorem dX0_become_133 : decode cX0_become 133 = .ok (.aload_n 0, 1) := by decide +kernel
theorem dX0_become_134 : decode cX0_become 134 = .ok (.getfield 36, 3) := by decide +kernel
theorem dX0_become_137 : decode cX0_become 137 = .ok (.iconst 0, 1) := by decide +kernel
theorem dX0_become_138 : decode cX0_become 138 = .ok (.bipush 12, 2) := by decide +kernel
theorem dX0_become_140 : decode cX0_become 140 = .ok (.invokestatic 66, 3) := by decide +kernel
theorem dX0_become_143 : decode cX0_become 143 = .ok (.aload_n 1, 1) := by decide +kernel
theorem dX0_become_144 : decode cX0_become 144 = .ok (.getfield 39, 3) := by decide +kernel
theorem dX0_become_147 : decode cX0_become 147 = .ok (.iconst 0, 1) := by decide +kernel
theorem dX0_become_148 : decode cX0_become 148 = .ok (.aload_n 0, 1) := by decide +kernel
theorem dX0_become_149 : decode cX0_become 149 = .ok (.getfield 39, 3) := by decide +kernel
theorem dX0_become_152 : decode cX0_become 152 = .ok (.iconst 0, 1) := by decide +kernel
theorem dX0_become_153 : decode cX0_become 153 = .ok (.bipush 12, 2) := by decide +kernel
theorem dX0_become_155 : decode cX0_become 155 = .ok (.invokestatic 66, 3) := by decide +kernel
theorem dX0_become_158 : decode cX0_become 158 = .ok (.aload_n 1, 1) := by decide +kernel
theorem dX0_become_159 : decode cX0_become 159 = .ok (.getfield 42, 3) := by decide +kernel
theorem dX0_become_162 : decode cX0_become 162 = .ok (.iconst 0, 1) := by decide +kernel
theorem dX0_become_163 : decode cX0_become 163 = .ok (.aload_n 0, 1) := by decide +kernel
theorem dX0_become_164 : decode cX0_become 164 = .ok (.getfield 42, 3) := by decide +kernel
theorem dX0_become_167 : decode cX0_become 167 = .ok (.iconst 0, 1) := by decide +kernel
theorem dX0_become_168 : decode cX0_become 168 = .ok (.bipush 8, 2) := by decide +kernel
theorem dX0_become_170 : decode cX0_become 170 = .ok (.invokestatic 66, 3) := by decide +kernel
theorem dX0_become_173 : decode cX0_become 173 = .ok (.aload_n 0, 1) := by decide +kernel
theorem dX0_become_174 : decode cX0_become 174 = .ok (.aload_n 1, 1) := by decide +kernel
theorem dX0_become_175 : decode cX0_become 175 = .ok (.getfield 53, 3) := by decide +kernel
theorem dX0_become_178 : decode cX0_become 178 = .ok (.putfield 53, 3) := by decide +kernel
theorem dX0_become_181 : decode cX0_become 181 = .ok (.aload_n 0, 1) := by decide +kernel
theorem dX0_become_182 : decode cX0_become 182 = .ok (.aload_n 1, 1) := by decide +kernel
theorem dX0_become_183 : decode cX0_become 183 = .ok (.getfield 57, 3) := by decide +kernel
theorem dX0_become_186 : decode cX0_become 186 = .ok (.putfield 57, 3) := by decide +kernel
theorem dX0_become_189 : decode cX0_become 189 = .ok (.aload_n 0, 1) := by decide +kernel
theorem dX0_become_190 : decode cX0_become 190 = .ok (.aload_n 1, 1) := by decide +kernel
theorem dX0_become_191 : decode cX0_become 191 = .ok (.getfield 60, 3) := by decide +kernel
theorem dX0_become_194 : decode cX0_become 194 = .ok (.putfield 60, 3) := by decide +kernel
theorem dX0_become_197 : decode cX0_become 197 = .ok (.aload_n 0, 1) := by decide +kernel
theorem dX0_become_198 : decode cX0_become 198 = .ok (.aload_n 1, 1) := by decide +kernel
theorem dX0_become_199 : decode cX0_become 199 = .ok (.getfield 63, 3) := by decide +kernel
theorem dX0_become_202 : decode cX0_become 202 = .ok (.putfield 63, 3) := by decide +kernel
theorem dX0_become_205 : decode cX0_become 205 = .ok (.return_, 1) := by decide +kernel
theorem dX0_addStrand_0 : decode cX0_addStrand 0 = .ok (.aload_n 0, 1) := by decide +kernel
theorem dX0_addStrand_1 : decode cX0_addStrand 1 = .ok (.getfield 57, 3) := by decide +kernel
theorem dX0_addStrand_4 : decode cX0_addStrand 4 = .ok (.bipush 12, 2) := by decide +kernel
theorem dX0_addStrand_6 : decode cX0_addStrand 6 = .ok (.if_icmp .ge 98, 3) := by decide +kernel
theorem dX0_addStrand_9 : decode cX0_addStrand 9 = .ok (.aload_n 0, 1) := by decide +kernel
theorem dX0_addStrand_10 : decode cX0_addStrand 10 = .ok (.getfield 18, 3) := by decide +kernel
theorem dX0_addStrand_13 : decode cX0_addStrand 13 = .ok (.aload_n 0, 1) := by decide +kernel
theorem dX0_addStrand_14 : decode cX0_addStrand 14 = .ok (.getfield 57, 3) := by decide +kernel
theorem dX0_addStrand_17 : decode cX0_addStrand 17 = .ok (.iload_n 1, 1) := by decide +kernel
theorem dX0_addStrand_18 : decode cX0_addStrand 18 = .ok (.iastore, 1) := by decide +kernel
theorem dX0_addStrand_19 : decode cX0_addStrand 19 = .ok (.aload_n 0, 1) := by decide +kernel
theorem dX0_addStrand_20 : decode cX0_addStrand 20 = .ok (.getfield 21, 3) := by decide +kernel
theorem dX0_addStrand_23 : decode cX0_addStrand 23 = .ok (.aload_n 0, 1) := by decide +kernel
theorem dX0_addStrand_24 : decode cX0_addStrand 24 = .ok (.getfield 57, 3) := by decide +kernel
theorem dX0_addStrand_27 : decode cX0_addStrand 27 = .ok (.iload_n 2, 1) := by decide +kernel
theorem dX0_addStrand_28 : decode cX0_addStrand 28 = .ok (.iastore, 1) := by decide +kernel
theorem dX0_addStrand_29 : decode cX0_addStrand 29 = .ok (.aload_n 0, 1) := by decide +kernel
theorem dX0_addStrand_30 : decode cX0_addStrand 30 = .ok (.getfield 24, 3) := by decide +kernel
theorem dX0_addStrand_33 : decode cX0_addStrand 33 = .ok (.aload_n 0, 1) := by decide +kernel
theorem dX0_addStrand_34 : decode cX0_addStrand 34 = .ok (.getfield 57, 3) := by decide +kernel
theorem dX0_addStrand_37 : decode cX0_addStrand 37 = .ok (.iload_n 3, 1) := by decide +kernel
theorem dX0_addStrand_38 : decode cX0_addStrand 38 = .ok (.iastore, 1) := by decide +kernel
theorem dX0_addStrand_39 : decode cX0_addStrand 39 = .ok (.aload_n 0, 1) := by decide +kernel
theorem dX0_addStrand_40 : decode cX0_addStrand 40 = .ok (.getfield 27, 3) := by decide +kernel
theorem dX0_addStrand_43 : decode cX0_addStrand 43 = .ok (.aload_n 0, 1) := by decide +kernel
theorem dX0_addStrand_44 : decode cX0_addStrand 44 = .ok (.getfield 57, 3) := by decide +kernel
theorem dX0_addStrand_47 : decode cX0_addStrand 47 = .ok (.iload 4, 2) := by decide +kernel
theorem dX0_addStrand_49 : decode cX0_addStrand 49 = .ok (.iastore, 1) := by decide +kernel
theorem dX0_addStrand_50 : decode cX0_addStrand 50 = .ok (.aload_n 0, 1) := by decide +kernel
theorem dX0_addStrand_51 : decode cX0_addStrand 51 = .ok (.getfield 30, 3) := by decide +kernel
theorem dX0_addStrand_54 : decode cX0_addStrand 54 = .ok (.aload_n 0, 1) := by decide +kernel
theorem dX0_addStrand_55 : decode cX0_addStrand 55 = .ok (.getfield 57, 3) := by decide +kernel
theorem dX0_addStrand_58 : decode cX0_addStrand 58 = .ok (.iload 5, 2) := by decide +kernel
theorem dX0_addStrand_60 : decode cX0_addStrand 60 = .ok (.iastore, 1) := by decide +kernel
theorem dX0_addStrand_61 : decode cX0_addStrand 61 = .ok (.aload_n 0, 1) := by decide +kernel
theorem dX0_addStrand_62 : decode cX0_addStrand 62 = .ok (.getfield 33, 3) := by decide +kernel
theorem dX0_addStrand_65 : decode cX0_addStrand 65 = .ok (.aload_n 0, 1) := by decide +kernel
theorem dX0_addStrand_66 : decode cX0_addStrand 66 = .ok (.getfield 57, 3) := by decide +kernel
theorem dX0_addStrand_69 : decode cX0_addStrand 69 = .ok (.aload_n 0, 1) := by decide +kernel
theorem dX0_addStrand_70 : decode cX0_addStrand 70 = .ok (.getfield 63, 3) := by decide +kernel
theorem dX0_addStrand_73 : decode cX0_addStrand 73 = .ok (.iastore, 1) := by decide +kernel
theorem dX0_addStrand_74 : decode cX0_addStrand 74 = .ok (.aload_n 0, 1) := by decide +kernel
theorem dX0_addStrand_75 : decode cX0_addStrand 75 = .ok (.getfield 36, 3) := by decide +kernel
theorem dX0_addStrand_78 : decode cX0_addStrand 78 = .ok (.aload_n 0, 1) := by decide +kernel
theorem dX0_addStrand_79 : decode cX0_addStrand 79 = .ok (.getfield 57, 3) := by decide +kernel
theorem dX0_addStrand_82 : decode cX0_addStrand 82 = .ok (.iconst 0, 1) := by decide +kernel
theorem dX0_addStrand_83 : decode cX0_addStrand 83 = .ok (.iastore, 1) := by decide +kernel
theorem dX0_addStrand_84 : decode cX0_addStrand 84 = .ok (.aload_n 0, 1) := by decide +kernel
theorem dX0_addStrand_85 : decode cX0_addStrand 85 = .ok (.getfield 39, 3) := by decide +kernel
theorem dX0_addStrand_88 : decode cX0_addStrand 88 = .ok (.aload_n 0, 1) := by decide +kernel
theorem dX0_addStrand_89 : decode cX0_addStrand 89 = .ok (.getfield 57, 3) := by decide +kernel
theorem dX0_addStrand_92 : decode cX0_addStrand 92 = .ok (.iconst (-1), 1) := by decide +kernel
theorem dX0_addStrand_93 : decode cX0_addStrand 93 = .ok (.iastore, 1) := by decide +kernel
theorem dX0_addStrand_94 : decode cX0_addStrand 94 = .ok (.aload_n 0, 1) := by decide +kernel
theorem dX0_addStrand_95 : decode cX0_addStrand 95 = .ok (.dup, 1) := by decide +kernel
theorem dX0_addStrand_96 : decode cX0_addStrand 96 = .ok (.getfield 57, 3) := by decide +kernel
theorem dX0_addStrand_99 : decode cX0_addStrand 99 = .ok (.iconst 1, 1) := by decide +kernel
theorem dX0_addStrand_100 : decode cX0_addStrand 100 = .ok (.iadd, 1) := by decide +kernel
theorem dX0_addStrand_101 : decode cX0_addStrand 101 = .ok (.putfield 57, 3) := by decide +kernel
theorem dX0_addStrand_104 : decode cX0_addStrand 104 = .ok (.return_, 1) := by decide +kernel
theorem dX0_paintAlone_0 : decode cX0_paintAlone 0 = .ok (.aload_n 0, 1) := by decide +kernel
theorem dX0_paintAlone_1 : decode cX0_paintAlone 1 = .ok (.iload_n 1, 1) := by decide +kernel
theorem dX0_paintAlone_2 : decode cX0_paintAlone 2 = .ok (.iload_n 2, 1) := by decide +kernel
theorem dX0_paintAlone_3 : decode cX0_paintAlone 3 = .ok (.if_icmp .ge 9, 3) := by decide +kernel
theorem dX0_paintAlone_6 : decode cX0_paintAlone 6 = .ok (.iconst 1, 1) := by decide +kernel
theorem dX0_paintAlone_7 : decode cX0_paintAlone 7 = .ok (.iload_n 1, 1) := by decide +kernel
theorem dX0_paintAlone_8 : decode cX0_paintAlone 8 = .ok (.ishl, 1) := by decide +kernel
theorem dX0_paintAlone_9 : decode cX0_paintAlone 9 = .ok (.goto 4, 3) := by decide +kernel
theorem dX0_paintAlone_12 : decode cX0_paintAlone 12 = .ok (.iconst 0, 1) := by decide +kernel
theorem dX0_paintAlone_13 : decode cX0_paintAlone 13 = .ok (.putfield 53, 3) := by decide +kernel
theorem dX0_paintAlone_16 : decode cX0_paintAlone 16 = .ok (.return_, 1) := by decide +kernel
theorem dX0_isStrand_0 : decode cX0_isStrand 0 = .ok (.iload_n 1, 1) := by decide +kernel
theorem dX0_isStrand_1 : decode cX0_isStrand 1 = .ok (.ifCond .lt 21, 3) := by decide +kernel
theorem dX0_isStrand_4 : decode cX0_isStrand 4 = .ok (.iload_n 1, 1) := by decide +kernel
theorem dX0_isStrand_5 : decode cX0_isStrand 5 = .ok (.aload_n 0, 1) := by decide +kernel
theorem dX0_isStrand_6 : decode cX0_isStrand 6 = .ok (.getfield 57, 3) := by decide +kernel
theorem dX0_isStrand_9 : decode cX0_isStrand 9 = .ok (.if_icmp .ge 13, 3) := by decide +kernel
theorem dX0_isStrand_12 : decode cX0_isStrand 12 = .ok (.iload_n 1, 1) := by decide +kernel
theorem dX0_isStrand_13 : decode cX0_isStrand 13 = .ok (.bipush 12, 2) := by decide +kernel
theorem dX0_isStrand_15 : decode cX0_isStrand 15 = .ok (.if_icmp .ge 7, 3) := by decide +kernel
theorem dX0_isStrand_18 : decode cX0_isStrand 18 = .ok (.iconst 1, 1) := by decide +kernel
theorem dX0_isStrand_19 : decode cX0_isStrand 19 = .ok (.goto 4, 3) := by decide +kernel
theorem dX0_isStrand_22 : decode cX0_isStrand 22 = .ok (.iconst 0, 1) := by decide +kernel
theorem dX0_isStrand_23 : decode cX0_isStrand 23 = .ok (.ireturn, 1) := by decide +kernel
theorem dX0_isThere_0 : decode cX0_isThere 0 = .ok (.aload_n 0, 1) := by decide +kernel
theorem dX0_isThere_1 : decode cX0_isThere 1 = .ok (.iload_n 1, 1) := by decide +kernel
theorem dX0_isThere_2 : decode cX0_isThere 2 = .ok (.invokevirtual 72, 3) := by decide +kernel
theorem dX0_isThere_5 : decode cX0_isThere 5 = .ok (.ifCond .eq 16, 3) := by decide +kernel
theorem dX0_isThere_8 : decode cX0_isThere 8 = .ok (.aload_n 0, 1) := by decide +kernel
theorem dX0_isThere_9 : decode cX0_isThere 9 = .ok (.getfield 36, 3) := by decide +kernel
theorem dX0_isThere_12 : decode cX0_isThere 12 = .ok (.iload_n 1, 1) := by decide +kernel
theorem dX0_isThere_13 : decode cX0_isThere 13 = .ok (.iaload, 1) := by decide +kernel
theorem dX0_isThere_14 : decode cX0_isThere 14 = .ok (.ifCond .ne 7, 3) := by decide +kernel
theorem dX0_isThere_17 : decode cX0_isThere 17 = .ok (.iconst 1, 1) := by decide +kernel
theorem dX0_isThere_18 : decode cX0_isThere 18 = .ok (.goto 4, 3) := by decide +kernel
theorem dX0_isThere_21 : decode cX0_isThere 21 = .ok (.iconst 0, 1) := by decide +kernel
theorem dX0_isThere_22 : decode cX0_isThere 22 = .ok (.ireturn, 1) := by decide +kernel
theorem dX0_thereBits_0 : decode cX0_thereBits 0 = .ok (.iconst 0, 1) := by decide +kernel
theorem dX0_thereBits_1 : decode cX0_thereBits 1 = .ok (.istore_n 1, 1) := by decide +kernel
theorem dX0_thereBits_2 : decode cX0_thereBits 2 = .ok (.iconst 0, 1) := by decide +kernel
theorem dX0_thereBits_3 : decode cX0_thereBits 3 = .ok (.istore_n 2, 1) := by decide +kernel
theorem dX0_thereBits_4 : decode cX0_thereBits 4 = .ok (.iload_n 2, 1) := by decide +kernel
theorem dX0_thereBits_5 : decode cX0_thereBits 5 = .ok (.aload_n 0, 1) := by decide +kernel
theorem dX0_thereBits_6 : decode cX0_thereBits 6 = .ok (.getfield 57, 3) := by decide +kernel
theorem dX0_thereBits_9 : decode cX0_thereBits 9 = .ok (.if_icmp .ge 23, 3) := by decide +kernel
theorem dX0_thereBits_12 : decode cX0_thereBits 12 = .ok (.aload_n 0, 1) := by decide +kernel
theorem dX0_thereBits_13 : decode cX0_thereBits 13 = .ok (.iload_n 2, 1) := by decide +kernel
theorem dX0_thereBits_14 : decode cX0_thereBits 14 = .ok (.invokevirtual 76, 3) := by decide +kernel
theorem dX0_thereBits_17 : decode cX0_thereBits 17 = .ok (.ifCond .eq 9, 3) := by decide +kernel
theorem dX0_thereBits_20 : decode cX0_thereBits 20 = .ok (.iload_n 1, 1) := by decide +kernel
theorem dX0_thereBits_21 : decode cX0_thereBits 21 = .ok (.iconst 1, 1) := by decide +kernel
theorem dX0_thereBits_22 : decode cX0_thereBits 22 = .ok (.iload_n 2, 1) := by decide +kernel
theorem dX0_thereBits_23 : decode cX0_thereBits 23 = .ok (.ishl, 1) := by decide +kernel
theorem dX0_thereBits_24 : decode cX0_thereBits 24 = .ok (.ior, 1) := by decide +kernel
theorem dX0_thereBits_25 : decode cX0_thereBits 25 = .ok (.istore_n 1, 1) := by decide +kernel
theorem dX0_thereBits_26 : decode cX0_thereBits 26 = .ok (.iinc 2 1, 3) := by decide +kernel
theorem dX0_thereBits_29 : decode cX0_thereBits 29 = .ok (.goto (-25), 3) := by decide +kernel
theorem dX0_thereBits_32 : decode cX0_thereBits 32 = .ok (.iload_n 1, 1) := by decide +kernel
theorem dX0_thereBits_33 : decode cX0_thereBits 33 = .ok (.ireturn, 1) := by decide +kernel
theorem dX0_strandsAs_0 : decode cX0_strandsAs 0 = .ok (.iconst 0, 1) := by decide +kernel
theorem dX0_strandsAs_1 : decode cX0_strandsAs 1 = .ok (.istore_n 2, 1) := by decide +kernel
theorem dX0_strandsAs_2 : decode cX0_strandsAs 2 = .ok (.iconst 0, 1) := by decide +kernel
theorem dX0_strandsAs_3 : decode cX0_strandsAs 3 = .ok (.istore_n 3, 1) := by decide +kernel
theorem dX0_strandsAs_4 : decode cX0_strandsAs 4 = .ok (.iload_n 3, 1) := by decide +kernel
theorem dX0_strandsAs_5 : decode cX0_strandsAs 5 = .ok (.aload_n 0, 1) := by decide +kernel
theorem dX0_strandsAs_6 : decode cX0_strandsAs 6 = .ok (.getfield 57, 3) := by decide +kernel
theorem dX0_strandsAs_9 : decode cX0_strandsAs 9 = .ok (.if_icmp .ge 28, 3) := by decide +kernel
theorem dX0_strandsAs_12 : decode cX0_strandsAs 12 = .ok (.iload_n 3, 1) := by decide +kernel
theorem dX0_strandsAs_13 : decode cX0_strandsAs 13 = .ok (.bipush 12, 2) := by decide +kernel
theorem dX0_strandsAs_15 : decode cX0_strandsAs 15 = .ok (.if_icmp .ge 22, 3) := by decide +kernel
theorem dX0_strandsAs_18 : decode cX0_strandsAs 18 = .ok (.aload_n 0, 1) := by decide +kernel
theorem dX0_strandsAs_19 : decode cX0_strandsAs 19 = .ok (.getfield 36, 3) := by decide +kernel
theorem dX0_strandsAs_22 : decode cX0_strandsAs 22 = .ok (.iload_n 3, 1) := by decide +kernel
theorem dX0_strandsAs_23 : decode cX0_strandsAs 23 = .ok (.iaload, 1) := by decide +kernel
theorem dX0_strandsAs_24 : decode cX0_strandsAs 24 = .ok (.iload_n 1, 1) := by decide +kernel
theorem dX0_strandsAs_25 : decode cX0_strandsAs 25 = .ok (.if_icmp .ne 6, 3) := by decide +kernel
theorem dX0_strandsAs_28 : decode cX0_strandsAs 28 = .ok (.iinc 2 1, 3) := by decide +kernel
theorem dX0_strandsAs_31 : decode cX0_strandsAs 31 = .ok (.iinc 3 1, 3) := by decide +kernel
theorem dX0_strandsAs_34 : decode cX0_strandsAs 34 = .ok (.goto (-30), 3) := by decide +kernel
theorem dX0_strandsAs_37 : decode cX0_strandsAs 37 = .ok (.iload_n 2, 1) := by decide +kernel
theorem dX0_strandsAs_38 : decode cX0_strandsAs 38 = .ok (.ireturn, 1) := by decide +kernel
theorem dX0_crossingsAs_0 : decode cX0_crossingsAs 0 = .ok (.iconst 0, 1) := by decide +kernel
theorem dX0_crossingsAs_1 : decode cX0_crossingsAs 1 = .ok (.istore_n 2, 1) := by decide +kernel
theorem dX0_crossingsAs_2 : decode cX0_crossingsAs 2 = .ok (.iconst 0, 1) := by decide +kernel
theorem dX0_crossingsAs_3 : decode cX0_crossingsAs 3 = .ok (.istore_n 3, 1) := by decide +kernel
theorem dX0_crossingsAs_4 : decode cX0_crossingsAs 4 = .ok (.iload_n 3, 1) := by decide +kernel
theorem dX0_crossingsAs_5 : decode cX0_crossingsAs 5 = .ok (.aload_n 0, 1) := by decide +kernel
theorem dX0_crossingsAs_6 : decode cX0_crossingsAs 6 = .ok (.getfield 49, 3) := by decide +kernel
theorem dX0_crossingsAs_9 : decode cX0_crossingsAs 9 = .ok (.getfield 79, 3) := by decide +kernel
theorem dX0_crossingsAs_12 : decode cX0_crossingsAs 12 = .ok (.if_icmp .ge 28, 3) := by decide +kernel
theorem dX0_crossingsAs_15 : decode cX0_crossingsAs 15 = .ok (.iload_n 3, 1) := by decide +kernel
theorem dX0_crossingsAs_16 : decode cX0_crossingsAs 16 = .ok (.bipush 8, 2) := by decide +kernel
theorem dX0_crossingsAs_18 : decode cX0_crossingsAs 18 = .ok (.if_icmp .ge 22, 3) := by decide +kernel
theorem dX0_crossingsAs_21 : decode cX0_crossingsAs 21 = .ok (.aload_n 0, 1) := by decide +kernel
theorem dX0_crossingsAs_22 : decode cX0_crossingsAs 22 = .ok (.getfield 42, 3) := by decide +kernel
theorem dX0_crossingsAs_25 : decode cX0_crossingsAs 25 = .ok (.iload_n 3, 1) := by decide +kernel
theorem dX0_crossingsAs_26 : decode cX0_crossingsAs 26 = .ok (.iaload, 1) := by decide +kernel
theorem dX0_crossingsAs_27 : decode cX0_crossingsAs 27 = .ok (.iload_n 1, 1) := by decide +kernel
theorem dX0_crossingsAs_28 : decode cX0_crossingsAs 28 = .ok (.if_icmp .ne 6, 3) := by decide +kernel
theorem dX0_crossingsAs_31 : decode cX0_crossingsAs 31 = .ok (.iinc 2 1, 3) := by decide +kernel
theorem dX0_crossingsAs_34 : decode cX0_crossingsAs 34 = .ok (.iinc 3 1, 3) := by decide +kernel
theorem dX0_crossingsAs_37 : decode cX0_crossingsAs 37 = .ok (.goto (-33), 3) := by decide +kernel
theorem dX0_crossingsAs_40 : decode cX0_crossingsAs 40 = .ok (.iload_n 2, 1) := by decide +kernel
theorem dX0_crossingsAs_41 : decode cX0_crossingsAs 41 = .ok (.ireturn, 1) := by decide +kernel
theorem dX0_owedBetween_0 : decode cX0_owedBetween 0 = .ok (.iconst 0, 1) := by decide +kernel
theorem dX0_owedBetween_1 : decode cX0_owedBetween 1 = .ok (.istore_n 3, 1) := by decide +kernel
theorem dX0_owedBetween_2 : decode cX0_owedBetween 2 = .ok (.iconst 0, 1) := by decide +kernel
theorem dX0_owedBetween_3 : decode cX0_owedBetween 3 = .ok (.istore 4, 2) := by decide +kernel
theorem dX0_owedBetween_5 : decode cX0_owedBetween 5 = .ok (.iload 4, 2) := by decide +kernel
theorem dX0_owedBetween_7 : decode cX0_owedBetween 7 = .ok (.aload_n 0, 1) := by decide +kernel
theorem dX0_owedBetween_8 : decode cX0_owedBetween 8 = .ok (.getfield 57, 3) := by decide +kernel
theorem dX0_owedBetween_11 : decode cX0_owedBetween 11 = .ok (.if_icmp .ge 72, 3) := by decide +kernel
theorem dX0_owedBetween_14 : decode cX0_owedBetween 14 = .ok (.aload_n 0, 1) := by decide +kernel
theorem dX0_owedBetween_15 : decode cX0_owedBetween 15 = .ok (.iload 4, 2) := by decide +kernel
theorem dX0_owedBetween_17 : decode cX0_owedBetween 17 = .ok (.invokevirtual 76, 3) := by decide +kernel
theorem dX0_owedBetween_20 : decode cX0_owedBetween 20 = .ok (.ifCond .eq 39, 3) := by decide +kernel
theorem dX0_owedBetween_23 : decode cX0_owedBetween 23 = .ok (.iload_n 1, 1) := by decide +kernel
theorem dX0_owedBetween_24 : decode cX0_owedBetween 24 = .ok (.iconst (-1), 1) := by decide +kernel
theorem dX0_owedBetween_25 : decode cX0_owedBetween 25 = .ok (.if_icmp .eq 14, 3) := by decide +kernel
theorem dX0_owedBetween_28 : decode cX0_owedBetween 28 = .ok (.aload_n 0, 1) := by decide +kernel
theorem dX0_owedBetween_29 : decode cX0_owedBetween 29 = .ok (.getfield 18, 3) := by decide +kernel
theorem dX0_owedBetween_32 : decode cX0_owedBetween 32 = .ok (.iload 4, 2) := by decide +kernel
theorem dX0_owedBetween_34 : decode cX0_owedBetween 34 = .ok (.iaload, 1) := by decide +kernel
theorem dX0_owedBetween_35 : decode cX0_owedBetween 35 = .ok (.iload_n 1, 1) := by decide +kernel
theorem dX0_owedBetween_36 : decode cX0_owedBetween 36 = .ok (.if_icmp .ne 23, 3) := by decide +kernel
theorem dX0_owedBetween_39 : decode cX0_owedBetween 39 = .ok (.iload_n 2, 1) := by decide +kernel
theorem dX0_owedBetween_40 : decode cX0_owedBetween 40 = .ok (.iconst (-1), 1) := by decide +kernel
theorem dX0_owedBetween_41 : decode cX0_owedBetween 41 = .ok (.if_icmp .eq 14, 3) := by decide +kernel
theorem dX0_owedBetween_44 : decode cX0_owedBetween 44 = .ok (.aload_n 0, 1) := by decide +kernel
theorem dX0_owedBetween_45 : decode cX0_owedBetween 45 = .ok (.getfield 21, 3) := by decide +kernel
theorem dX0_owedBetween_48 : decode cX0_owedBetween 48 = .ok (.iload 4, 2) := by decide +kernel
theorem dX0_owedBetween_50 : decode cX0_owedBetween 50 = .ok (.iaload, 1) := by decide +kernel
theorem dX0_owedBetween_51 : decode cX0_owedBetween 51 = .ok (.iload_n 2, 1) := by decide +kernel
theorem dX0_owedBetween_52 : decode cX0_owedBetween 52 = .ok (.if_icmp .ne 7, 3) := by decide +kernel
theorem dX0_owedBetween_55 : decode cX0_owedBetween 55 = .ok (.iconst 1, 1) := by decide +kernel
theorem dX0_owedBetween_56 : decode cX0_owedBetween 56 = .ok (.goto 4, 3) := by decide +kernel
theorem dX0_owedBetween_59 : decode cX0_owedBetween 59 = .ok (.iconst 0, 1) := by decide +kernel
theorem dX0_owedBetween_60 : decode cX0_owedBetween 60 = .ok (.istore 5, 2) := by decide +kernel
theorem dX0_owedBetween_62 : decode cX0_owedBetween 62 = .ok (.iload 5, 2) := by decide +kernel
theorem dX0_owedBetween_64 : decode cX0_owedBetween 64 = .ok (.ifCond .eq 13, 3) := by decide +kernel
theorem dX0_owedBetween_67 : decode cX0_owedBetween 67 = .ok (.iload_n 3, 1) := by decide +kernel
theorem dX0_owedBetween_68 : decode cX0_owedBetween 68 = .ok (.aload_n 0, 1) := by decide +kernel
theorem dX0_owedBetween_69 : decode cX0_owedBetween 69 = .ok (.getfield 24, 3) := by decide +kernel
theorem dX0_owedBetween_72 : decode cX0_owedBetween 72 = .ok (.iload 4, 2) := by decide +kernel
theorem dX0_owedBetween_74 : decode cX0_owedBetween 74 = .ok (.iaload, 1) := by decide +kernel
theorem dX0_owedBetween_75 : decode cX0_owedBetween 75 = .ok (.iadd, 1) := by decide +kernel
theorem dX0_owedBetween_76 : decode cX0_owedBetween 76 = .ok (.istore_n 3, 1) := by decide +kernel
theorem dX0_owedBetween_77 : decode cX0_owedBetween 77 = .ok (.iinc 4 1, 3) := by decide +kernel
theorem dX0_owedBetween_80 : decode cX0_owedBetween 80 = .ok (.goto (-75), 3) := by decide +kernel
theorem dX0_owedBetween_83 : decode cX0_owedBetween 83 = .ok (.iload_n 3, 1) := by decide +kernel
theorem dX0_owedBetween_84 : decode cX0_owedBetween 84 = .ok (.ireturn, 1) := by decide +kernel
theorem dX0_owedOn_0 : decode cX0_owedOn 0 = .ok (.iconst 0, 1) := by decide +kernel
theorem dX0_owedOn_1 : decode cX0_owedOn 1 = .ok (.istore_n 2, 1) := by decide +kernel
theorem dX0_owedOn_2 : decode cX0_owedOn 2 = .ok (.iconst 0, 1) := by decide +kernel
theorem dX0_owedOn_3 : decode cX0_owedOn 3 = .ok (.istore_n 3, 1) := by decide +kernel
theorem dX0_owedOn_4 : decode cX0_owedOn 4 = .ok (.iload_n 3, 1) := by decide +kernel
theorem dX0_owedOn_5 : decode cX0_owedOn 5 = .ok (.aload_n 0, 1) := by decide +kernel
theorem dX0_owedOn_6 : decode cX0_owedOn 6 = .ok (.getfield 57, 3) := by decide +kernel
theorem dX0_owedOn_9 : decode cX0_owedOn 9 = .ok (.if_icmp .ge 33, 3) := by decide +kernel
theorem dX0_owedOn_12 : decode cX0_owedOn 12 = .ok (.iload_n 3, 1) := by decide +kernel
theorem dX0_owedOn_13 : decode cX0_owedOn 13 = .ok (.bipush 12, 2) := by decide +kernel
theorem dX0_owedOn_15 : decode cX0_owedOn 15 = .ok (.if_icmp .ge 27, 3) := by decide +kernel
theorem dX0_owedOn_18 : decode cX0_owedOn 18 = .ok (.iload_n 1, 1) := by decide +kernel
theorem dX0_owedOn_19 : decode cX0_owedOn 19 = .ok (.iload_n 3, 1) := by decide +kernel
theorem dX0_owedOn_20 : decode cX0_owedOn 20 = .ok (.ishr, 1) := by decide +kernel
theorem dX0_owedOn_21 : decode cX0_owedOn 21 = .ok (.iconst 1, 1) := by decide +kernel
theorem dX0_owedOn_22 : decode cX0_owedOn 22 = .ok (.iand, 1) := by decide +kernel
theorem dX0_owedOn_23 : decode cX0_owedOn 23 = .ok (.iconst 1, 1) := by decide +kernel
theorem dX0_owedOn_24 : decode cX0_owedOn 24 = .ok (.if_icmp .ne 12, 3) := by decide +kernel
theorem dX0_owedOn_27 : decode cX0_owedOn 27 = .ok (.iload_n 2, 1) := by decide +kernel
theorem dX0_owedOn_28 : decode cX0_owedOn 28 = .ok (.aload_n 0, 1) := by decide +kernel
theorem dX0_owedOn_29 : decode cX0_owedOn 29 = .ok (.getfield 24, 3) := by decide +kernel
theorem dX0_owedOn_32 : decode cX0_owedOn 32 = .ok (.iload_n 3, 1) := by decide +kernel
theorem dX0_owedOn_33 : decode cX0_owedOn 33 = .ok (.iaload, 1) := by decide +kernel
theorem dX0_owedOn_34 : decode cX0_owedOn 34 = .ok (.iadd, 1) := by decide +kernel
theorem dX0_owedOn_35 : decode cX0_owedOn 35 = .ok (.istore_n 2, 1) := by decide +kernel
theorem dX0_owedOn_36 : decode cX0_owedOn 36 = .ok (.iinc 3 1, 3) := by decide +kernel
theorem dX0_owedOn_39 : decode cX0_owedOn 39 = .ok (.goto (-35), 3) := by decide +kernel
theorem dX0_owedOn_42 : decode cX0_owedOn 42 = .ok (.iload_n 2, 1) := by decide +kernel
theorem dX0_owedOn_43 : decode cX0_owedOn 43 = .ok (.ireturn, 1) := by decide +kernel
theorem dX0_strandsOfSide_0 : decode cX0_strandsOfSide 0 = .ok (.iconst 0, 1) := by decide +kernel
theorem dX0_strandsOfSide_1 : decode cX0_strandsOfSide 1 = .ok (.istore_n 2, 1) := by decide +kernel
theorem dX0_strandsOfSide_2 : decode cX0_strandsOfSide 2 = .ok (.iconst 0, 1) := by decide +kernel
theorem dX0_strandsOfSide_3 : decode cX0_strandsOfSide 3 = .ok (.istore_n 3, 1) := by decide +kernel
theorem dX0_strandsOfSide_4 : decode cX0_strandsOfSide 4 = .ok (.iload_n 3, 1) := by decide +kernel
theorem dX0_strandsOfSide_5 : decode cX0_strandsOfSide 5 = .ok (.aload_n 0, 1) := by decide +kernel
theorem dX0_strandsOfSide_6 : decode cX0_strandsOfSide 6 = .ok (.getfield 57, 3) := by decide +kernel
theorem dX0_strandsOfSide_9 : decode cX0_strandsOfSide 9 = .ok (.if_icmp .ge 41, 3) := by decide +kernel
theorem dX0_strandsOfSide_12 : decode cX0_strandsOfSide 12 = .ok (.aload_n 0, 1) := by decide +kernel
theorem dX0_strandsOfSide_13 : decode cX0_strandsOfSide 13 = .ok (.iload_n 3, 1) := by decide +kernel
theorem dX0_strandsOfSide_14 : decode cX0_strandsOfSide 14 = .ok (.invokevirtual 76, 3) := by decide +kernel
theorem dX0_strandsOfSide_17 : decode cX0_strandsOfSide 17 = .ok (.ifCond .eq 27, 3) := by decide +kernel
theorem dX0_strandsOfSide_20 : decode cX0_strandsOfSide 20 = .ok (.aload_n 0, 1) := by decide +kernel
theorem dX0_strandsOfSide_21 : decode cX0_strandsOfSide 21 = .ok (.getfield 49, 3) := by decide +kernel
theorem dX0_strandsOfSide_24 : decode cX0_strandsOfSide 24 = .ok (.getfield 84, 3) := by decide +kernel
theorem dX0_strandsOfSide_27 : decode cX0_strandsOfSide 27 = .ok (.aload_n 0, 1) := by decide +kernel
theorem dX0_strandsOfSide_28 : decode cX0_strandsOfSide 28 = .ok (.getfield 18, 3) := by decide +kernel
theorem dX0_strandsOfSide_31 : decode cX0_strandsOfSide 31 = .ok (.iload_n 3, 1) := by decide +kernel
theorem dX0_strandsOfSide_32 : decode cX0_strandsOfSide 32 = .ok (.iaload, 1) := by decide +kernel
theorem dX0_strandsOfSide_33 : decode cX0_strandsOfSide 33 = .ok (.iaload, 1) := by decide +kernel
theorem dX0_strandsOfSide_34 : decode cX0_strandsOfSide 34 = .ok (.iload_n 1, 1) := by decide +kernel
theorem dX0_strandsOfSide_35 : decode cX0_strandsOfSide 35 = .ok (.if_icmp .ne 9, 3) := by decide +kernel
theorem dX0_strandsOfSide_38 : decode cX0_strandsOfSide 38 = .ok (.iload_n 2, 1) := by decide +kernel
theorem dX0_strandsOfSide_39 : decode cX0_strandsOfSide 39 = .ok (.iconst 1, 1) := by decide +kernel
theorem dX0_strandsOfSide_40 : decode cX0_strandsOfSide 40 = .ok (.iload_n 3, 1) := by decide +kernel
theorem dX0_strandsOfSide_41 : decode cX0_strandsOfSide 41 = .ok (.ishl, 1) := by decide +kernel
theorem dX0_strandsOfSide_42 : decode cX0_strandsOfSide 42 = .ok (.ior, 1) := by decide +kernel
theorem dX0_strandsOfSide_43 : decode cX0_strandsOfSide 43 = .ok (.istore_n 2, 1) := by decide +kernel
theorem dX0_strandsOfSide_44 : decode cX0_strandsOfSide 44 = .ok (.iinc 3 1, 3) := by decide +kernel
theorem dX0_strandsOfSide_47 : decode cX0_strandsOfSide 47 = .ok (.goto (-43), 3) := by decide +kernel
theorem dX0_strandsOfSide_50 : decode cX0_strandsOfSide 50 = .ok (.iload_n 2, 1) := by decide +kernel
theorem dX0_strandsOfSide_51 : decode cX0_strandsOfSide 51 = .ok (.ireturn, 1) := by decide +kernel
theorem dX0_twoOf_0 : decode cX0_twoOf 0 = .ok (.aload_n 0, 1) := by decide +kernel
theorem dX0_twoOf_1 : decode cX0_twoOf 1 = .ok (.aload_n 0, 1) := by decide +kernel
theorem dX0_twoOf_2 : decode cX0_twoOf 2 = .ok (.getfield 39, 3) := by decide +kernel
theorem dX0_twoOf_5 : decode cX0_twoOf 5 = .ok (.iload_n 1, 1) := by decide +kernel
theorem dX0_twoOf_6 : decode cX0_twoOf 6 = .ok (.iaload, 1) := by decide +kernel
theorem dX0_twoOf_7 : decode cX0_twoOf 7 = .ok (.invokevirtual 76, 3) := by decide +kernel
theorem dX0_twoOf_10 : decode cX0_twoOf 10 = .ok (.ifCond .eq 7, 3) := by decide +kernel
theorem dX0_twoOf_13 : decode cX0_twoOf 13 = .ok (.iconst 1, 1) := by decide +kernel
theorem dX0_twoOf_14 : decode cX0_twoOf 14 = .ok (.goto 4, 3) := by decide +kernel
theorem dX0_twoOf_17 : decode cX0_twoOf 17 = .ok (.iconst 0, 1) := by decide +kernel
theorem dX0_twoOf_18 : decode cX0_twoOf 18 = .ok (.ireturn, 1) := by decide +kernel
theorem dX0_measure_0 : decode cX0_measure 0 = .ok (.aload_n 0, 1) := by decide +kernel
theorem dX0_measure_1 : decode cX0_measure 1 = .ok (.aload_n 0, 1) := by decide +kernel
theorem dX0_measure_2 : decode cX0_measure 2 = .ok (.getfield 24, 3) := by decide +kernel
theorem dX0_measure_5 : decode cX0_measure 5 = .ok (.iload_n 1, 1) := by decide +kernel
theorem dX0_measure_6 : decode cX0_measure 6 = .ok (.iaload, 1) := by decide +kernel
theorem dX0_measure_7 : decode cX0_measure 7 = .ok (.aload_n 0, 1) := by decide +kernel
theorem dX0_measure_8 : decode cX0_measure 8 = .ok (.getfield 27, 3) := by decide +kernel
theorem dX0_measure_11 : decode cX0_measure 11 = .ok (.iload_n 1, 1) := by decide +kernel
theorem dX0_measure_12 : decode cX0_measure 12 = .ok (.iaload, 1) := by decide +kernel
theorem dX0_measure_13 : decode cX0_measure 13 = .ok (.aload_n 0, 1) := by decide +kernel
theorem dX0_measure_14 : decode cX0_measure 14 = .ok (.getfield 63, 3) := by decide +kernel
theorem dX0_measure_17 : decode cX0_measure 17 = .ok (.aload_n 0, 1) := by decide +kernel
theorem dX0_measure_18 : decode cX0_measure 18 = .ok (.getfield 33, 3) := by decide +kernel
theorem dX0_measure_21 : decode cX0_measure 21 = .ok (.iload_n 1, 1) := by decide +kernel
theorem dX0_measure_22 : decode cX0_measure 22 = .ok (.iaload, 1) := by decide +kernel
theorem dX0_measure_23 : decode cX0_measure 23 = .ok (.isub, 1) := by decide +kernel
theorem dX0_measure_24 : decode cX0_measure 24 = .ok (.aload_n 0, 1) := by decide +kernel
theorem dX0_measure_25 : decode cX0_measure 25 = .ok (.getfield 30, 3) := by decide +kernel
theorem dX0_measure_28 : decode cX0_measure 28 = .ok (.iload_n 1, 1) := by decide +kernel
theorem dX0_measure_29 : decode cX0_measure 29 = .ok (.iaload, 1) := by decide +kernel
theorem dX0_measure_30 : decode cX0_measure 30 = .ok (.aload_n 0, 1) := by decide +kernel
theorem dX0_measure_31 : decode cX0_measure 31 = .ok (.getfield 9, 3) := by decide +kernel
theorem dX0_measure_34 : decode cX0_measure 34 = .ok (.aload_n 0, 1) := by decide +kernel
theorem dX0_measure_35 : decode cX0_measure 35 = .ok (.getfield 18, 3) := by decide +kernel
theorem dX0_measure_38 : decode cX0_measure 38 = .ok (.iload_n 1, 1) := by decide +kernel
theorem dX0_measure_39 : decode cX0_measure 39 = .ok (.iaload, 1) := by decide +kernel
theorem dX0_measure_40 : decode cX0_measure 40 = .ok (.iaload, 1) := by decide +kernel
theorem dX0_measure_41 : decode cX0_measure 41 = .ok (.iload_n 2, 1) := by decide +kernel
theorem dX0_measure_42 : decode cX0_measure 42 = .ok (.invokevirtual 87, 3) := by decide +kernel
theorem dX0_measure_45 : decode cX0_measure 45 = .ok (.return_, 1) := by decide +kernel
theorem dX0_setNames_0 : decode cX0_setNames 0 = .ok (.aload_n 0, 1) := by decide +kernel
theorem dX0_setNames_1 : decode cX0_setNames 1 = .ok (.getfield 49, 3) := by decide +kernel
theorem dX0_setNames_4 : decode cX0_setNames 4 = .ok (.getfield 91, 3) := by decide +kernel
theorem dX0_setNames_7 : decode cX0_setNames 7 = .ok (.getfield 95, 3) := by decide +kernel
theorem dX0_setNames_10 : decode cX0_setNames 10 = .ok (.astore 7, 2) := by decide +kernel
theorem dX0_setNames_12 : decode cX0_setNames 12 = .ok (.aload 7, 2) := by decide +kernel
theorem dX0_setNames_14 : decode cX0_setNames 14 = .ok (.iconst 0, 1) := by decide +kernel
theorem dX0_setNames_15 : decode cX0_setNames 15 = .ok (.iload_n 1, 1) := by decide +kernel
theorem dX0_setNames_16 : decode cX0_setNames 16 = .ok (.i2l, 1) := by decide +kernel
theorem dX0_setNames_17 : decode cX0_setNames 17 = .ok (.lastore, 1) := by decide +kernel
theorem dX0_setNames_18 : decode cX0_setNames 18 = .ok (.aload 7, 2) := by decide +kernel
theorem dX0_setNames_20 : decode cX0_setNames 20 = .ok (.iconst 1, 1) := by decide +kernel
theorem dX0_setNames_21 : decode cX0_setNames 21 = .ok (.iload_n 2, 1) := by decide +kernel
theorem dX0_setNames_22 : decode cX0_setNames 22 = .ok (.i2l, 1) := by decide +kernel
theorem dX0_setNames_23 : decode cX0_setNames 23 = .ok (.lastore, 1) := by decide +kernel
theorem dX0_setNames_24 : decode cX0_setNames 24 = .ok (.aload 7, 2) := by decide +kernel
theorem dX0_setNames_26 : decode cX0_setNames 26 = .ok (.iconst 2, 1) := by decide +kernel
theorem dX0_setNames_27 : decode cX0_setNames 27 = .ok (.iload_n 3, 1) := by decide +kernel
theorem dX0_setNames_28 : decode cX0_setNames 28 = .ok (.i2l, 1) := by decide +kernel
theorem dX0_setNames_29 : decode cX0_setNames 29 = .ok (.lastore, 1) := by decide +kernel
theorem dX0_setNames_30 : decode cX0_setNames 30 = .ok (.aload 7, 2) := by decide +kernel
theorem dX0_setNames_32 : decode cX0_setNames 32 = .ok (.iconst 3, 1) := by decide +kernel
theorem dX0_setNames_33 : decode cX0_setNames 33 = .ok (.iload 4, 2) := by decide +kernel
theorem dX0_setNames_35 : decode cX0_setNames 35 = .ok (.i2l, 1) := by decide +kernel
theorem dX0_setNames_36 : decode cX0_setNames 36 = .ok (.lastore, 1) := by decide +kernel
theorem dX0_setNames_37 : decode cX0_setNames 37 = .ok (.aload 7, 2) := by decide +kernel
theorem dX0_setNames_39 : decode cX0_setNames 39 = .ok (.iconst 4, 1) := by decide +kernel
theorem dX0_setNames_40 : decode cX0_setNames 40 = .ok (.aload_n 0, 1) := by decide +kernel
theorem dX0_setNames_41 : decode cX0_setNames 41 = .ok (.getfield 63, 3) := by decide +kernel
theorem dX0_setNames_44 : decode cX0_setNames 44 = .ok (.i2l, 1) := by decide +kernel
theorem dX0_setNames_45 : decode cX0_setNames 45 = .ok (.lastore, 1) := by decide +kernel
theorem dX0_setNames_46 : decode cX0_setNames 46 = .ok (.aload 7, 2) := by decide +kernel
theorem dX0_setNames_48 : decode cX0_setNames 48 = .ok (.iconst 5, 1) := by decide +kernel
theorem dX0_setNames_49 : decode cX0_setNames 49 = .ok (.iload 5, 2) := by decide +kernel
theorem dX0_setNames_51 : decode cX0_setNames 51 = .ok (.i2l, 1) := by decide +kernel
theorem dX0_setNames_52 : decode cX0_setNames 52 = .ok (.lastore, 1) := by decide +kernel
theorem dX0_setNames_53 : decode cX0_setNames 53 = .ok (.aload 7, 2) := by decide +kernel
theorem dX0_setNames_55 : decode cX0_setNames 55 = .ok (.bipush 6, 2) := by decide +kernel
theorem dX0_setNames_57 : decode cX0_setNames 57 = .ok (.iload 6, 2) := by decide +kernel
theorem dX0_setNames_59 : decode cX0_setNames 59 = .ok (.i2l, 1) := by decide +kernel
theorem dX0_setNames_60 : decode cX0_setNames 60 = .ok (.lastore, 1) := by decide +kernel
theorem dX0_setNames_61 : decode cX0_setNames 61 = .ok (.return_, 1) := by decide +kernel
theorem dX0_alone_0 : decode cX0_alone 0 = .ok (.aload_n 0, 1) := by decide +kernel
theorem dX0_alone_1 : decode cX0_alone 1 = .ok (.iload_n 1, 1) := by decide +kernel
theorem dX0_alone_2 : decode cX0_alone 2 = .ok (.invokevirtual 76, 3) := by decide +kernel
theorem dX0_alone_5 : decode cX0_alone 5 = .ok (.ifCond .eq 15, 3) := by decide +kernel
theorem dX0_alone_8 : decode cX0_alone 8 = .ok (.aload_n 0, 1) := by decide +kernel
theorem dX0_alone_9 : decode cX0_alone 9 = .ok (.getfield 53, 3) := by decide +kernel
theorem dX0_alone_12 : decode cX0_alone 12 = .ok (.iload_n 1, 1) := by decide +kernel
theorem dX0_alone_13 : decode cX0_alone 13 = .ok (.ishr, 1) := by decide +kernel
theorem dX0_alone_14 : decode cX0_alone 14 = .ok (.iconst 1, 1) := by decide +kernel
theorem dX0_alone_15 : decode cX0_alone 15 = .ok (.iand, 1) := by decide +kernel
theorem dX0_alone_16 : decode cX0_alone 16 = .ok (.iconst 1, 1) := by decide +kernel
theorem dX0_alone_17 : decode cX0_alone 17 = .ok (.if_icmp .ne 5, 3) := by decide +kernel
theorem dX0_alone_20 : decode cX0_alone 20 = .ok (.iconst 0, 1) := by decide +kernel
theorem dX0_alone_21 : decode cX0_alone 21 = .ok (.ireturn, 1) := by decide +kernel
theorem dX0_alone_22 : decode cX0_alone 22 = .ok (.aload_n 0, 1) := by decide +kernel
theorem dX0_alone_23 : decode cX0_alone 23 = .ok (.iload_n 1, 1) := by decide +kernel
theorem dX0_alone_24 : decode cX0_alone 24 = .ok (.iload_n 2, 1) := by decide +kernel
theorem dX0_alone_25 : decode cX0_alone 25 = .ok (.invokevirtual 101, 3) := by decide +kernel
theorem dX0_alone_28 : decode cX0_alone 28 = .ok (.aload_n 0, 1) := by decide +kernel
theorem dX0_alone_29 : decode cX0_alone 29 = .ok (.getfield 49, 3) := by decide +kernel
theorem dX0_alone_32 : decode cX0_alone 32 = .ok (.getfield 91, 3) := by decide +kernel
theorem dX0_alone_35 : decode cX0_alone 35 = .ok (.iconst 0, 1) := by decide +kernel
theorem dX0_alone_36 : decode cX0_alone 36 = .ok (.invokevirtual 105, 3) := by decide +kernel
theorem dX0_alone_39 : decode cX0_alone 39 = .ok (.sipush 9999, 3) := by decide +kernel
theorem dX0_alone_42 : decode cX0_alone 42 = .ok (.aload_n 0, 1) := by decide +kernel
theorem dX0_alone_43 : decode cX0_alone 43 = .ok (.getfield 24, 3) := by decide +kernel
theorem dX0_alone_46 : decode cX0_alone 46 = .ok (.iload_n 1, 1) := by decide +kernel
theorem dX0_alone_47 : decode cX0_alone 47 = .ok (.iaload, 1) := by decide +kernel
theorem dX0_alone_48 : decode cX0_alone 48 = .ok (.aload_n 0, 1) := by decide +kernel
theorem dX0_alone_49 : decode cX0_alone 49 = .ok (.getfield 24, 3) := by decide +kernel
theorem dX0_alone_52 : decode cX0_alone 52 = .ok (.iload_n 1, 1) := by decide +kernel
theorem dX0_alone_53 : decode cX0_alone 53 = .ok (.iaload, 1) := by decide +kernel
theorem dX0_alone_54 : decode cX0_alone 54 = .ok (.aload_n 0, 1) := by decide +kernel
theorem dX0_alone_55 : decode cX0_alone 55 = .ok (.getfield 27, 3) := by decide +kernel
theorem dX0_alone_58 : decode cX0_alone 58 = .ok (.iload_n 1, 1) := by decide +kernel
theorem dX0_alone_59 : decode cX0_alone 59 = .ok (.iaload, 1) := by decide +kernel
theorem dX0_alone_60 : decode cX0_alone 60 = .ok (.imul, 1) := by decide +kernel
theorem dX0_alone_61 : decode cX0_alone 61 = .ok (.bipush 100, 2) := by decide +kernel
theorem dX0_alone_63 : decode cX0_alone 63 = .ok (.idiv, 1) := by decide +kernel
theorem dX0_alone_64 : decode cX0_alone 64 = .ok (.isub, 1) := by decide +kernel
theorem dX0_alone_65 : decode cX0_alone 65 = .ok (.invokestatic 109, 3) := by decide +kernel
theorem dX0_alone_68 : decode cX0_alone 68 = .ok (.ireturn, 1) := by decide +kernel
theorem dX0_loanBears_0 : decode cX0_loanBears 0 = .ok (.aload_n 0, 1) := by decide +kernel
theorem dX0_loanBears_1 : decode cX0_loanBears 1 = .ok (.iload_n 1, 1) := by decide +kernel
theorem dX0_loanBears_2 : decode cX0_loanBears 2 = .ok (.iconst 0, 1) := by decide +kernel
theorem dX0_loanBears_3 : decode cX0_loanBears 3 = .ok (.iconst 0, 1) := by decide +kernel
theorem dX0_loanBears_4 : decode cX0_loanBears 4 = .ok (.bipush 99, 2) := by decide +kernel
theorem dX0_loanBears_6 : decode cX0_loanBears 6 = .ok (.iconst 0, 1) := by decide +kernel
theorem dX0_loanBears_7 : decode cX0_loanBears 7 = .ok (.iconst 0, 1) := by decide +kernel
theorem dX0_loanBears_8 : decode cX0_loanBears 8 = .ok (.invokevirtual 87, 3) := by decide +kernel
theorem dX0_loanBears_11 : decode cX0_loanBears 11 = .ok (.aload_n 0, 1) := by decide +kernel
theorem dX0_loanBears_12 : decode cX0_loanBears 12 = .ok (.getfield 49, 3) := by decide +kernel
theorem dX0_loanBears_15 : decode cX0_loanBears 15 = .ok (.getfield 91, 3) := by decide +kernel
theorem dX0_loanBears_18 : decode cX0_loanBears 18 = .ok (.iconst 0, 1) := by decide +kernel
theorem dX0_loanBears_19 : decode cX0_loanBears 19 = .ok (.invokevirtual 105, 3) := by decide +kernel
theorem dX0_loanBears_22 : decode cX0_loanBears 22 = .ok (.sipush 9999, 3) := by decide +kernel
theorem dX0_loanBears_25 : decode cX0_loanBears 25 = .ok (.iload_n 1, 1) := by decide +kernel
theorem dX0_loanBears_26 : decode cX0_loanBears 26 = .ok (.invokestatic 109, 3) := by decide +kernel
theorem dX0_loanBears_29 : decode cX0_loanBears 29 = .ok (.ireturn, 1) := by decide +kernel
theorem dX0_within_0 : decode cX0_within 0 = .ok (.lload_n 0, 1) := by decide +kernel
theorem dX0_within_1 : decode cX0_within 1 = .ok (.ldc2_w 113, 3) := by decide +kernel
theorem dX0_within_4 : decode cX0_within 4 = .ok (.lcmp, 1) := by decide +kernel
theorem dX0_within_5 : decode cX0_within 5 = .ok (.ifCond .ne 5, 3) := by decide +kernel
theorem dX0_within_8 : decode cX0_within 8 = .ok (.iload_n 3, 1) := by decide +kernel
theorem dX0_within_9 : decode cX0_within 9 = .ok (.ireturn, 1) := by decide +kernel
theorem dX0_within_10 : decode cX0_within 10 = .ok (.lload_n 0, 1) := by decide +kernel
theorem dX0_within_11 : decode cX0_within 11 = .ok (.lconst 0, 1) := by decide +kernel
theorem dX0_within_12 : decode cX0_within 12 = .ok (.lcmp, 1) := by decide +kernel
theorem dX0_within_13 : decode cX0_within 13 = .ok (.ifCond .ge 7, 3) := by decide +kernel
theorem dX0_within_16 : decode cX0_within 16 = .ok (.iconst 0, 1) := by decide +kernel
theorem dX0_within_17 : decode cX0_within 17 = .ok (.goto 16, 3) := by decide +kernel
theorem dX0_within_20 : decode cX0_within 20 = .ok (.lload_n 0, 1) := by decide +kernel
theorem dX0_within_21 : decode cX0_within 21 = .ok (.iload_n 2, 1) := by decide +kernel
theorem dX0_within_22 : decode cX0_within 22 = .ok (.i2l, 1) := by decide +kernel
theorem dX0_within_23 : decode cX0_within 23 = .ok (.lcmp, 1) := by decide +kernel
theorem dX0_within_24 : decode cX0_within 24 = .ok (.ifCond .le 7, 3) := by decide +kernel
theorem dX0_within_27 : decode cX0_within 27 = .ok (.iload_n 2, 1) := by decide +kernel
theorem dX0_within_28 : decode cX0_within 28 = .ok (.goto 5, 3) := by decide +kernel
theorem dX0_within_31 : decode cX0_within 31 = .ok (.lload_n 0, 1) := by decide +kernel
theorem dX0_within_32 : decode cX0_within 32 = .ok (.l2i, 1) := by decide +kernel
theorem dX0_within_33 : decode cX0_within 33 = .ok (.ireturn, 1) := by decide +kernel
theorem dX0_bridgeBears_0 : decode cX0_bridgeBears 0 = .ok (.aload_n 0, 1) := by decide +kernel
theorem dX0_bridgeBears_1 : decode cX0_bridgeBears 1 = .ok (.getfield 60, 3) := by decide +kernel
theorem dX0_bridgeBears_4 : decode cX0_bridgeBears 4 = .ok (.istore_n 1, 1) := by decide +kernel
theorem dX0_bridgeBears_5 : decode cX0_bridgeBears 5 = .ok (.iconst 0, 1) := by decide +kernel
theorem dX0_bridgeBears_6 : decode cX0_bridgeBears 6 = .ok (.istore_n 2, 1) := by decide +kernel
theorem dX0_bridgeBears_7 : decode cX0_bridgeBears 7 = .ok (.iload_n 2, 1) := by decide +kernel
theorem dX0_bridgeBears_8 : decode cX0_bridgeBears 8 = .ok (.aload_n 0, 1) := by decide +kernel
theorem dX0_bridgeBears_9 : decode cX0_bridgeBears 9 = .ok (.getfield 57, 3) := by decide +kernel
theorem dX0_bridgeBears_12 : decode cX0_bridgeBears 12 = .ok (.if_icmp .ge 82, 3) := by decide +kernel
theorem dX0_bridgeBears_15 : decode cX0_bridgeBears 15 = .ok (.aload_n 0, 1) := by decide +kernel
theorem dX0_bridgeBears_16 : decode cX0_bridgeBears 16 = .ok (.iload_n 2, 1) := by decide +kernel
theorem dX0_bridgeBears_17 : decode cX0_bridgeBears 17 = .ok (.invokevirtual 76, 3) := by decide +kernel
theorem dX0_bridgeBears_20 : decode cX0_bridgeBears 20 = .ok (.ifCond .ne 6, 3) := by decide +kernel
theorem dX0_bridgeBears_23 : decode cX0_bridgeBears 23 = .ok (.goto 65, 3) := by decide +kernel
theorem dX0_bridgeBears_26 : decode cX0_bridgeBears 26 = .ok (.aload_n 0, 1) := by decide +kernel
theorem dX0_bridgeBears_27 : decode cX0_bridgeBears 27 = .ok (.iload_n 2, 1) := by decide +kernel
theorem dX0_bridgeBears_28 : decode cX0_bridgeBears 28 = .ok (.invokevirtual 115, 3) := by decide +kernel
theorem dX0_bridgeBears_31 : decode cX0_bridgeBears 31 = .ok (.istore_n 3, 1) := by decide +kernel
theorem dX0_bridgeBears_32 : decode cX0_bridgeBears 32 = .ok (.iload_n 3, 1) := by decide +kernel
theorem dX0_bridgeBears_33 : decode cX0_bridgeBears 33 = .ok (.ifCond .ne 15, 3) := by decide +kernel
theorem dX0_bridgeBears_36 : decode cX0_bridgeBears 36 = .ok (.iload_n 1, 1) := by decide +kernel
theorem dX0_bridgeBears_37 : decode cX0_bridgeBears 37 = .ok (.aload_n 0, 1) := by decide +kernel
theorem dX0_bridgeBears_38 : decode cX0_bridgeBears 38 = .ok (.iload_n 2, 1) := by decide +kernel
theorem dX0_bridgeBears_39 : decode cX0_bridgeBears 39 = .ok (.iconst 0, 1) := by decide +kernel
theorem dX0_bridgeBears_40 : decode cX0_bridgeBears 40 = .ok (.invokevirtual 119, 3) := by decide +kernel
theorem dX0_bridgeBears_43 : decode cX0_bridgeBears 43 = .ok (.iadd, 1) := by decide +kernel
theorem dX0_bridgeBears_44 : decode cX0_bridgeBears 44 = .ok (.istore_n 1, 1) := by decide +kernel
theorem dX0_bridgeBears_45 : decode cX0_bridgeBears 45 = .ok (.goto 43, 3) := by decide +kernel
theorem dX0_bridgeBears_48 : decode cX0_bridgeBears 48 = .ok (.iload_n 2, 1) := by decide +kernel
theorem dX0_bridgeBears_49 : decode cX0_bridgeBears 49 = .ok (.aload_n 0, 1) := by decide +kernel
theorem dX0_bridgeBears_50 : decode cX0_bridgeBears 50 = .ok (.getfield 39, 3) := by decide +kernel
theorem dX0_bridgeBears_53 : decode cX0_bridgeBears 53 = .ok (.iload_n 2, 1) := by decide +kernel
theorem dX0_bridgeBears_54 : decode cX0_bridgeBears 54 = .ok (.iaload, 1) := by decide +kernel
theorem dX0_bridgeBears_55 : decode cX0_bridgeBears 55 = .ok (.if_icmp .ge 33, 3) := by decide +kernel
theorem dX0_bridgeBears_58 : decode cX0_bridgeBears 58 = .ok (.aload_n 0, 1) := by decide +kernel
theorem dX0_bridgeBears_59 : decode cX0_bridgeBears 59 = .ok (.iload_n 2, 1) := by decide +kernel
theorem dX0_bridgeBears_60 : decode cX0_bridgeBears 60 = .ok (.iconst 1, 1) := by decide +kernel
theorem dX0_bridgeBears_61 : decode cX0_bridgeBears 61 = .ok (.invokevirtual 119, 3) := by decide +kernel
theorem dX0_bridgeBears_64 : decode cX0_bridgeBears 64 = .ok (.aload_n 0, 1) := by decide +kernel
theorem dX0_bridgeBears_65 : decode cX0_bridgeBears 65 = .ok (.aload_n 0, 1) := by decide +kernel
theorem dX0_bridgeBears_66 : decode cX0_bridgeBears 66 = .ok (.getfield 39, 3) := by decide +kernel
theorem dX0_bridgeBears_69 : decode cX0_bridgeBears 69 = .ok (.iload_n 2, 1) := by decide +kernel
theorem dX0_bridgeBears_70 : decode cX0_bridgeBears 70 = .ok (.iaload, 1) := by decide +kernel
theorem dX0_bridgeBears_71 : decode cX0_bridgeBears 71 = .ok (.iconst 1, 1) := by decide +kernel
theorem dX0_bridgeBears_72 : decode cX0_bridgeBears 72 = .ok (.invokevirtual 119, 3) := by decide +kernel
theorem dX0_bridgeBears_75 : decode cX0_bridgeBears 75 = .ok (.iadd, 1) := by decide +kernel
theorem dX0_bridgeBears_76 : decode cX0_bridgeBears 76 = .ok (.istore 4, 2) := by decide +kernel
theorem dX0_bridgeBears_78 : decode cX0_bridgeBears 78 = .ok (.iload_n 1, 1) := by decide +kernel
theorem dX0_bridgeBears_79 : decode cX0_bridgeBears 79 = .ok (.iload 4, 2) := by decide +kernel
theorem dX0_bridgeBears_81 : decode cX0_bridgeBears 81 = .ok (.iload 4, 2) := by decide +kernel
theorem dX0_bridgeBears_83 : decode cX0_bridgeBears 83 = .ok (.iconst 2, 1) := by decide +kernel
theorem dX0_bridgeBears_84 : decode cX0_bridgeBears 84 = .ok (.idiv, 1) := by decide +kernel
theorem dX0_bridgeBears_85 : decode cX0_bridgeBears 85 = .ok (.iadd, 1) := by decide +kernel
theorem dX0_bridgeBears_86 : decode cX0_bridgeBears 86 = .ok (.iadd, 1) := by decide +kernel
theorem dX0_bridgeBears_87 : decode cX0_bridgeBears 87 = .ok (.istore_n 1, 1) := by decide +kernel
theorem dX0_bridgeBears_88 : decode cX0_bridgeBears 88 = .ok (.iinc 2 1, 3) := by decide +kernel
theorem dX0_bridgeBears_91 : decode cX0_bridgeBears 91 = .ok (.goto (-84), 3) := by decide +kernel
theorem dX0_bridgeBears_94 : decode cX0_bridgeBears 94 = .ok (.iload_n 1, 1) := by decide +kernel
theorem dX0_bridgeBears_95 : decode cX0_bridgeBears 95 = .ok (.ireturn, 1) := by decide +kernel
theorem dX0_untwine_0 : decode cX0_untwine 0 = .ok (.aload_n 0, 1) := by decide +kernel
theorem dX0_untwine_1 : decode cX0_untwine 1 = .ok (.getfield 39, 3) := by decide +kernel
theorem dX0_untwine_4 : decode cX0_untwine 4 = .ok (.iload_n 1, 1) := by decide +kernel
theorem dX0_untwine_5 : decode cX0_untwine 5 = .ok (.iaload, 1) := by decide +kernel
theorem dX0_untwine_6 : decode cX0_untwine 6 = .ok (.istore_n 2, 1) := by decide +kernel
theorem dX0_untwine_7 : decode cX0_untwine 7 = .ok (.aload_n 0, 1) := by decide +kernel
theorem dX0_untwine_8 : decode cX0_untwine 8 = .ok (.iload_n 2, 1) := by decide +kernel
theorem dX0_untwine_9 : decode cX0_untwine 9 = .ok (.invokevirtual 72, 3) := by decide +kernel
theorem dX0_untwine_12 : decode cX0_untwine 12 = .ok (.ifCond .eq 10, 3) := by decide +kernel
theorem dX0_untwine_15 : decode cX0_untwine 15 = .ok (.aload_n 0, 1) := by decide +kernel
theorem dX0_untwine_16 : decode cX0_untwine 16 = .ok (.getfield 39, 3) := by decide +kernel
theorem dX0_untwine_19 : decode cX0_untwine 19 = .ok (.iload_n 2, 1) := by decide +kernel
theorem dX0_untwine_20 : decode cX0_untwine 20 = .ok (.iconst (-1), 1) := by decide +kernel
theorem dX0_untwine_21 : decode cX0_untwine 21 = .ok (.iastore, 1) := by decide +kernel
theorem dX0_untwine_22 : decode cX0_untwine 22 = .ok (.aload_n 0, 1) := by decide +kernel
theorem dX0_untwine_23 : decode cX0_untwine 23 = .ok (.getfield 39, 3) := by decide +kernel
theorem dX0_untwine_26 : decode cX0_untwine 26 = .ok (.iload_n 1, 1) := by decide +kernel
theorem dX0_untwine_27 : decode cX0_untwine 27 = .ok (.iconst (-1), 1) := by decide +kernel
theorem dX0_untwine_28 : decode cX0_untwine 28 = .ok (.iastore, 1) := by decide +kernel
theorem dX0_untwine_29 : decode cX0_untwine 29 = .ok (.return_, 1) := by decide +kernel
theorem dX0_twine_0 : decode cX0_twine 0 = .ok (.aload_n 0, 1) := by decide +kernel
theorem dX0_twine_1 : decode cX0_twine 1 = .ok (.getfield 39, 3) := by decide +kernel
theorem dX0_twine_4 : decode cX0_twine 4 = .ok (.iload_n 1, 1) := by decide +kernel
theorem dX0_twine_5 : decode cX0_twine 5 = .ok (.iload_n 2, 1) := by decide +kernel
theorem dX0_twine_6 : decode cX0_twine 6 = .ok (.iastore, 1) := by decide +kernel
theorem dX0_twine_7 : decode cX0_twine 7 = .ok (.aload_n 0, 1) := by decide +kernel
theorem dX0_twine_8 : decode cX0_twine 8 = .ok (.getfield 39, 3) := by decide +kernel
theorem dX0_twine_11 : decode cX0_twine 11 = .ok (.iload_n 2, 1) := by decide +kernel
theorem dX0_twine_12 : decode cX0_twine 12 = .ok (.iload_n 1, 1) := by decide +kernel
theorem dX0_twine_13 : decode cX0_twine 13 = .ok (.iastore, 1) := by decide +kernel
theorem dX0_twine_14 : decode cX0_twine 14 = .ok (.return_, 1) := by decide +kernel
theorem dX0_canPay_0 : decode cX0_canPay 0 = .ok (.aload_n 0, 1) := by decide +kernel
theorem dX0_canPay_1 : decode cX0_canPay 1 = .ok (.iload_n 1, 1) := by decide +kernel
theorem dX0_canPay_2 : decode cX0_canPay 2 = .ok (.invokevirtual 76, 3) := by decide +kernel
theorem dX0_canPay_5 : decode cX0_canPay 5 = .ok (.ifCond .eq 27, 3) := by decide +kernel
theorem dX0_canPay_8 : decode cX0_canPay 8 = .ok (.aload_n 0, 1) := by decide +kernel
theorem dX0_canPay_9 : decode cX0_canPay 9 = .ok (.getfield 9, 3) := by decide +kernel
theorem dX0_canPay_12 : decode cX0_canPay 12 = .ok (.aload_n 0, 1) := by decide +kernel
theorem dX0_canPay_13 : decode cX0_canPay 13 = .ok (.getfield 18, 3) := by decide +kernel
theorem dX0_canPay_16 : decode cX0_canPay 16 = .ok (.iload_n 1, 1) := by decide +kernel
theorem dX0_canPay_17 : decode cX0_canPay 17 = .ok (.iaload, 1) := by decide +kernel
theorem dX0_canPay_18 : decode cX0_canPay 18 = .ok (.iaload, 1) := by decide +kernel
theorem dX0_canPay_19 : decode cX0_canPay 19 = .ok (.aload_n 0, 1) := by decide +kernel
theorem dX0_canPay_20 : decode cX0_canPay 20 = .ok (.getfield 24, 3) := by decide +kernel
theorem dX0_canPay_23 : decode cX0_canPay 23 = .ok (.iload_n 1, 1) := by decide +kernel
theorem dX0_canPay_24 : decode cX0_canPay 24 = .ok (.iaload, 1) := by decide +kernel
theorem dX0_canPay_25 : decode cX0_canPay 25 = .ok (.if_icmp .lt 7, 3) := by decide +kernel
theorem dX0_canPay_28 : decode cX0_canPay 28 = .ok (.iconst 1, 1) := by decide +kernel
theorem dX0_canPay_29 : decode cX0_canPay 29 = .ok (.goto 4, 3) := by decide +kernel
theorem dX0_canPay_32 : decode cX0_canPay 32 = .ok (.iconst 0, 1) := by decide +kernel
theorem dX0_canPay_33 : decode cX0_canPay 33 = .ok (.ireturn, 1) := by decide +kernel
theorem dX0_payOut_0 : decode cX0_payOut 0 = .ok (.aload_n 0, 1) := by decide +kernel
theorem dX0_payOut_1 : decode cX0_payOut 1 = .ok (.getfield 9, 3) := by decide +kernel
theorem dX0_payOut_4 : decode cX0_payOut 4 = .ok (.aload_n 0, 1) := by decide +kernel
theorem dX0_payOut_5 : decode cX0_payOut 5 = .ok (.getfield 18, 3) := by decide +kernel
theorem dX0_payOut_8 : decode cX0_payOut 8 = .ok (.iload_n 1, 1) := by decide +kernel
theorem dX0_payOut_9 : decode cX0_payOut 9 = .ok (.iaload, 1) := by decide +kernel
theorem dX0_payOut_10 : decode cX0_payOut 10 = .ok (.dup2, 1) := by decide +kernel
theorem dX0_payOut_11 : decode cX0_payOut 11 = .ok (.iaload, 1) := by decide +kernel
theorem dX0_payOut_12 : decode cX0_payOut 12 = .ok (.aload_n 0, 1) := by decide +kernel
theorem dX0_payOut_13 : decode cX0_payOut 13 = .ok (.getfield 24, 3) := by decide +kernel
theorem dX0_payOut_16 : decode cX0_payOut 16 = .ok (.iload_n 1, 1) := by decide +kernel
theorem dX0_payOut_17 : decode cX0_payOut 17 = .ok (.iaload, 1) := by decide +kernel
theorem dX0_payOut_18 : decode cX0_payOut 18 = .ok (.isub, 1) := by decide +kernel
theorem dX0_payOut_19 : decode cX0_payOut 19 = .ok (.iastore, 1) := by decide +kernel
theorem dX0_payOut_20 : decode cX0_payOut 20 = .ok (.aload_n 0, 1) := by decide +kernel
theorem dX0_payOut_21 : decode cX0_payOut 21 = .ok (.getfield 9, 3) := by decide +kernel
theorem dX0_payOut_24 : decode cX0_payOut 24 = .ok (.aload_n 0, 1) := by decide +kernel
theorem dX0_payOut_25 : decode cX0_payOut 25 = .ok (.getfield 21, 3) := by decide +kernel
theorem dX0_payOut_28 : decode cX0_payOut 28 = .ok (.iload_n 1, 1) := by decide +kernel
theorem dX0_payOut_29 : decode cX0_payOut 29 = .ok (.iaload, 1) := by decide +kernel
theorem dX0_payOut_30 : decode cX0_payOut 30 = .ok (.dup2, 1) := by decide +kernel
theorem dX0_payOut_31 : decode cX0_payOut 31 = .ok (.iaload, 1) := by decide +kernel
theorem dX0_payOut_32 : decode cX0_payOut 32 = .ok (.aload_n 0, 1) := by decide +kernel
theorem dX0_payOut_33 : decode cX0_payOut 33 = .ok (.getfield 24, 3) := by decide +kernel
theorem dX0_payOut_36 : decode cX0_payOut 36 = .ok (.iload_n 1, 1) := by decide +kernel
theorem dX0_payOut_37 : decode cX0_payOut 37 = .ok (.iaload, 1) := by decide +kernel
theorem dX0_payOut_38 : decode cX0_payOut 38 = .ok (.iadd, 1) := by decide +kernel
theorem dX0_payOut_39 : decode cX0_payOut 39 = .ok (.iastore, 1) := by decide +kernel
theorem dX0_payOut_40 : decode cX0_payOut 40 = .ok (.aload_n 0, 1) := by decide +kernel
theorem dX0_payOut_41 : decode cX0_payOut 41 = .ok (.getfield 36, 3) := by decide +kernel
theorem dX0_payOut_44 : decode cX0_payOut 44 = .ok (.iload_n 1, 1) := by decide +kernel
theorem dX0_payOut_45 : decode cX0_payOut 45 = .ok (.iconst 1, 1) := by decide +kernel
theorem dX0_payOut_46 : decode cX0_payOut 46 = .ok (.iastore, 1) := by decide +kernel
theorem dX0_payOut_47 : decode cX0_payOut 47 = .ok (.return_, 1) := by decide +kernel
theorem dX0_takeBack_0 : decode cX0_takeBack 0 = .ok (.aload_n 0, 1) := by decide +kernel
theorem dX0_takeBack_1 : decode cX0_takeBack 1 = .ok (.getfield 9, 3) := by decide +kernel
theorem dX0_takeBack_4 : decode cX0_takeBack 4 = .ok (.aload_n 0, 1) := by decide +kernel
theorem dX0_takeBack_5 : decode cX0_takeBack 5 = .ok (.getfield 18, 3) := by decide +kernel
theorem dX0_takeBack_8 : decode cX0_takeBack 8 = .ok (.iload_n 1, 1) := by decide +kernel
theorem dX0_takeBack_9 : decode cX0_takeBack 9 = .ok (.iaload, 1) := by decide +kernel
theorem dX0_takeBack_10 : decode cX0_takeBack 10 = .ok (.dup2, 1) := by decide +kernel
theorem dX0_takeBack_11 : decode cX0_takeBack 11 = .ok (.iaload, 1) := by decide +kernel
theorem dX0_takeBack_12 : decode cX0_takeBack 12 = .ok (.aload_n 0, 1) := by decide +kernel
theorem dX0_takeBack_13 : decode cX0_takeBack 13 = .ok (.getfield 24, 3) := by decide +kernel
theorem dX0_takeBack_16 : decode cX0_takeBack 16 = .ok (.iload_n 1, 1) := by decide +kernel
theorem dX0_takeBack_17 : decode cX0_takeBack 17 = .ok (.iaload, 1) := by decide +kernel
theorem dX0_takeBack_18 : decode cX0_takeBack 18 = .ok (.iadd, 1) := by decide +kernel
theorem dX0_takeBack_19 : decode cX0_takeBack 19 = .ok (.iastore, 1) := by decide +kernel
theorem dX0_takeBack_20 : decode cX0_takeBack 20 = .ok (.aload_n 0, 1) := by decide +kernel
theorem dX0_takeBack_21 : decode cX0_takeBack 21 = .ok (.getfield 9, 3) := by decide +kernel
theorem dX0_takeBack_24 : decode cX0_takeBack 24 = .ok (.aload_n 0, 1) := by decide +kernel
theorem dX0_takeBack_25 : decode cX0_takeBack 25 = .ok (.getfield 21, 3) := by decide +kernel
theorem dX0_takeBack_28 : decode cX0_takeBack 28 = .ok (.iload_n 1, 1) := by decide +kernel
theorem dX0_takeBack_29 : decode cX0_takeBack 29 = .ok (.iaload, 1) := by decide +kernel
theorem dX0_takeBack_30 : decode cX0_takeBack 30 = .ok (.dup2, 1) := by decide +kernel
theorem dX0_takeBack_31 : decode cX0_takeBack 31 = .ok (.iaload, 1) := by decide +kernel
theorem dX0_takeBack_32 : decode cX0_takeBack 32 = .ok (.aload_n 0, 1) := by decide +kernel
theorem dX0_takeBack_33 : decode cX0_takeBack 33 = .ok (.getfield 24, 3) := by decide +kernel
theorem dX0_takeBack_36 : decode cX0_takeBack 36 = .ok (.iload_n 1, 1) := by decide +kernel
theorem dX0_takeBack_37 : decode cX0_takeBack 37 = .ok (.iaload, 1) := by decide +kernel
theorem dX0_takeBack_38 : decode cX0_takeBack 38 = .ok (.isub, 1) := by decide +kernel
theorem dX0_takeBack_39 : decode cX0_takeBack 39 = .ok (.iastore, 1) := by decide +kernel
theorem dX0_takeBack_40 : decode cX0_takeBack 40 = .ok (.aload_n 0, 1) := by decide +kernel
theorem dX0_takeBack_41 : decode cX0_takeBack 41 = .ok (.getfield 36, 3) := by decide +kernel
theorem dX0_takeBack_44 : decode cX0_takeBack 44 = .ok (.iload_n 1, 1) := by decide +kernel
theorem dX0_takeBack_45 : decode cX0_takeBack 45 = .ok (.iconst 0, 1) := by decide +kernel
theorem dX0_takeBack_46 : decode cX0_takeBack 46 = .ok (.iastore, 1) := by decide +kernel
theorem dX0_takeBack_47 : decode cX0_takeBack 47 = .ok (.return_, 1) := by decide +kernel
theorem dX0_fray_0 : decode cX0_fray 0 = .ok (.aload_n 0, 1) := by decide +kernel
theorem dX0_fray_1 : decode cX0_fray 1 = .ok (.iload_n 1, 1) := by decide +kernel
theorem dX0_fray_2 : decode cX0_fray 2 = .ok (.invokevirtual 76, 3) := by decide +kernel
theorem dX0_fray_5 : decode cX0_fray 5 = .ok (.ifCond .eq 31, 3) := by decide +kernel
theorem dX0_fray_8 : decode cX0_fray 8 = .ok (.aload_n 0, 1) := by decide +kernel
theorem dX0_fray_9 : decode cX0_fray 9 = .ok (.getfield 27, 3) := by decide +kernel
theorem dX0_fray_12 : decode cX0_fray 12 = .ok (.iload_n 1, 1) := by decide +kernel
theorem dX0_fray_13 : decode cX0_fray 13 = .ok (.dup2, 1) := by decide +kernel
theorem dX0_fray_14 : decode cX0_fray 14 = .ok (.iaload, 1) := by decide +kernel
theorem dX0_fray_15 : decode cX0_fray 15 = .ok (.iload_n 2, 1) := by decide +kernel
theorem dX0_fray_16 : decode cX0_fray 16 = .ok (.iadd, 1) := by decide +kernel
theorem dX0_fray_17 : decode cX0_fray 17 = .ok (.iastore, 1) := by decide +kernel
theorem dX0_fray_18 : decode cX0_fray 18 = .ok (.aload_n 0, 1) := by decide +kernel
theorem dX0_fray_19 : decode cX0_fray 19 = .ok (.getfield 27, 3) := by decide +kernel
theorem dX0_fray_22 : decode cX0_fray 22 = .ok (.iload_n 1, 1) := by decide +kernel
theorem dX0_fray_23 : decode cX0_fray 23 = .ok (.iaload, 1) := by decide +kernel
theorem dX0_fray_24 : decode cX0_fray 24 = .ok (.bipush 100, 2) := by decide +kernel
theorem dX0_fray_26 : decode cX0_fray 26 = .ok (.if_icmp .lt 10, 3) := by decide +kernel
theorem dX0_fray_29 : decode cX0_fray 29 = .ok (.aload_n 0, 1) := by decide +kernel
theorem dX0_fray_30 : decode cX0_fray 30 = .ok (.getfield 36, 3) := by decide +kernel
theorem dX0_fray_33 : decode cX0_fray 33 = .ok (.iload_n 1, 1) := by decide +kernel
theorem dX0_fray_34 : decode cX0_fray 34 = .ok (.iconst 3, 1) := by decide +kernel
theorem dX0_fray_35 : decode cX0_fray 35 = .ok (.iastore, 1) := by decide +kernel
theorem dX0_fray_36 : decode cX0_fray 36 = .ok (.return_, 1) := by decide +kernel
theorem dX0_goYear_0 : decode cX0_goYear 0 = .ok (.aload_n 0, 1) := by decide +kernel
theorem dX0_goYear_1 : decode cX0_goYear 1 = .ok (.invokevirtual 123, 3) := by decide +kernel
theorem dX0_goYear_4 : decode cX0_goYear 4 = .ok (.istore_n 2, 1) := by decide +kernel
theorem dX0_goYear_5 : decode cX0_goYear 5 = .ok (.iload_n 1, 1) := by decide +kernel
theorem dX0_goYear_6 : decode cX0_goYear 6 = .ok (.ifCond .eq 7, 3) := by decide +kernel
theorem dX0_goYear_9 : decode cX0_goYear 9 = .ok (.aload_n 0, 1) := by decide +kernel
theorem dX0_goYear_10 : decode cX0_goYear 10 = .ok (.invokevirtual 127, 3) := by decide +kernel
theorem dX0_goYear_13 : decode cX0_goYear 13 = .ok (.iload_n 1, 1) := by decide +kernel
theorem dX0_goYear_14 : decode cX0_goYear 14 = .ok (.iconst 4, 1) := by decide +kernel
theorem dX0_goYear_15 : decode cX0_goYear 15 = .ok (.if_icmp .eq 7, 3) := by decide +kernel
theorem dX0_goYear_18 : decode cX0_goYear 18 = .ok (.aload_n 0, 1) := by decide +kernel
theorem dX0_goYear_19 : decode cX0_goYear 19 = .ok (.invokevirtual 130, 3) := by decide +kernel
theorem dX0_goYear_22 : decode cX0_goYear 22 = .ok (.iload_n 1, 1) := by decide +kernel
theorem dX0_goYear_23 : decode cX0_goYear 23 = .ok (.iconst 1, 1) := by decide +kernel
theorem dX0_goYear_24 : decode cX0_goYear 24 = .ok (.if_icmp .eq 7, 3) := by decide +kernel
theorem dX0_goYear_27 : decode cX0_goYear 27 = .ok (.aload_n 0, 1) := by decide +kernel
theorem dX0_goYear_28 : decode cX0_goYear 28 = .ok (.invokevirtual 133, 3) := by decide +kernel
theorem dX0_goYear_31 : decode cX0_goYear 31 = .ok (.aload_n 0, 1) := by decide +kernel
theorem dX0_goYear_32 : decode cX0_goYear 32 = .ok (.dup, 1) := by decide +kernel
theorem dX0_goYear_33 : decode cX0_goYear 33 = .ok (.getfield 63, 3) := by decide +kernel
theorem dX0_goYear_36 : decode cX0_goYear 36 = .ok (.iconst 1, 1) := by decide +kernel
theorem dX0_goYear_37 : decode cX0_goYear 37 = .ok (.iadd, 1) := by decide +kernel
theorem dX0_goYear_38 : decode cX0_goYear 38 = .ok (.putfield 63, 3) := by decide +kernel
theorem dX0_goYear_41 : decode cX0_goYear 41 = .ok (.iload_n 2, 1) := by decide +kernel
theorem dX0_goYear_42 : decode cX0_goYear 42 = .ok (.ireturn, 1) := by decide +kernel
theorem dX0_letCross_0 : decode cX0_letCross 0 = .ok (.iconst (-1), 1) := by decide +kernel
theorem dX0_letCross_1 : decode cX0_letCross 1 = .ok (.istore_n 1, 1) := by decide +kernel
theorem dX0_letCross_2 : decode cX0_letCross 2 = .ok (.iconst 0, 1) := by decide +kernel
theorem dX0_letCross_3 : decode cX0_letCross 3 = .ok (.istore_n 2, 1) := by decide +kernel
theorem dX0_letCross_4 : decode cX0_letCross 4 = .ok (.iload_n 2, 1) := by decide +kernel
theorem dX0_letCross_5 : decode cX0_letCross 5 = .ok (.aload_n 0, 1) := by decide +kernel
theorem dX0_letCross_6 : decode cX0_letCross 6 = .ok (.getfield 49, 3) := by decide +kernel
theorem dX0_letCross_9 : decode cX0_letCross 9 = .ok (.getfield 79, 3) := by decide +kernel
theorem dX0_letCross_12 : decode cX0_letCross 12 = .ok (.if_icmp .ge 112, 3) := by decide +kernel
theorem dX0_letCross_15 : decode cX0_letCross 15 = .ok (.iload_n 2, 1) := by decide +kernel
theorem dX0_letCross_16 : decode cX0_letCross 16 = .ok (.bipush 8, 2) := by decide +kernel
theorem dX0_letCross_18 : decode cX0_letCross 18 = .ok (.if_icmp .ge 106, 3) := by decide +kernel
theorem dX0_letCross_21 : decode cX0_letCross 21 = .ok (.aload_n 0, 1) := by decide +kernel
theorem dX0_letCross_22 : decode cX0_letCross 22 = .ok (.getfield 49, 3) := by decide +kernel
theorem dX0_letCross_25 : decode cX0_letCross 25 = .ok (.getfield 136, 3) := by decide +kernel
theorem dX0_letCross_28 : decode cX0_letCross 28 = .ok (.iload_n 2, 1) := by decide +kernel
theorem dX0_letCross_29 : decode cX0_letCross 29 = .ok (.iaload, 1) := by decide +kernel
theorem dX0_letCross_30 : decode cX0_letCross 30 = .ok (.aload_n 0, 1) := by decide +kernel
theorem dX0_letCross_31 : decode cX0_letCross 31 = .ok (.getfield 63, 3) := by decide +kernel
theorem dX0_letCross_34 : decode cX0_letCross 34 = .ok (.if_icmp .eq 6, 3) := by decide +kernel
theorem dX0_letCross_37 : decode cX0_letCross 37 = .ok (.goto 81, 3) := by decide +kernel
theorem dX0_letCross_40 : decode cX0_letCross 40 = .ok (.aload_n 0, 1) := by decide +kernel
theorem dX0_letCross_41 : decode cX0_letCross 41 = .ok (.getfield 49, 3) := by decide +kernel
theorem dX0_letCross_44 : decode cX0_letCross 44 = .ok (.getfield 139, 3) := by decide +kernel
theorem dX0_letCross_47 : decode cX0_letCross 47 = .ok (.iload_n 2, 1) := by decide +kernel
theorem dX0_letCross_48 : decode cX0_letCross 48 = .ok (.iaload, 1) := by decide +kernel
theorem dX0_letCross_49 : decode cX0_letCross 49 = .ok (.istore_n 3, 1) := by decide +kernel
theorem dX0_letCross_50 : decode cX0_letCross 50 = .ok (.aload_n 0, 1) := by decide +kernel
theorem dX0_letCross_51 : decode cX0_letCross 51 = .ok (.getfield 49, 3) := by decide +kernel
theorem dX0_letCross_54 : decode cX0_letCross 54 = .ok (.getfield 142, 3) := by decide +kernel
theorem dX0_letCross_57 : decode cX0_letCross 57 = .ok (.iload_n 3, 1) := by decide +kernel
theorem dX0_letCross_58 : decode cX0_letCross 58 = .ok (.iaload, 1) := by decide +kernel
theorem dX0_letCross_59 : decode cX0_letCross 59 = .ok (.aload_n 0, 1) := by decide +kernel
theorem dX0_letCross_60 : decode cX0_letCross 60 = .ok (.getfield 49, 3) := by decide +kernel
theorem dX0_letCross_63 : decode cX0_letCross 63 = .ok (.getfield 145, 3) := by decide +kernel
theorem dX0_letCross_66 : decode cX0_letCross 66 = .ok (.iload_n 2, 1) := by decide +kernel
theorem dX0_letCross_67 : decode cX0_letCross 67 = .ok (.iaload, 1) := by decide +kernel
theorem dX0_letCross_68 : decode cX0_letCross 68 = .ok (.iadd, 1) := by decide +kernel
theorem dX0_letCross_69 : decode cX0_letCross 69 = .ok (.aload_n 0, 1) := by decide +kernel
theorem dX0_letCross_70 : decode cX0_letCross 70 = .ok (.invokevirtual 148, 3) := by decide +kernel
theorem dX0_letCross_73 : decode cX0_letCross 73 = .ok (.if_icmp .gt 27, 3) := by decide +kernel
theorem dX0_letCross_76 : decode cX0_letCross 76 = .ok (.aload_n 0, 1) := by decide +kernel
theorem dX0_letCross_77 : decode cX0_letCross 77 = .ok (.getfield 42, 3) := by decide +kernel
theorem dX0_letCross_80 : decode cX0_letCross 80 = .ok (.iload_n 2, 1) := by decide +kernel
theorem dX0_letCross_81 : decode cX0_letCross 81 = .ok (.iconst 1, 1) := by decide +kernel
theorem dX0_letCross_82 : decode cX0_letCross 82 = .ok (.iastore, 1) := by decide +kernel
theorem dX0_letCross_83 : decode cX0_letCross 83 = .ok (.aload_n 0, 1) := by decide +kernel
theorem dX0_letCross_84 : decode cX0_letCross 84 = .ok (.getfield 15, 3) := by decide +kernel
theorem dX0_letCross_87 : decode cX0_letCross 87 = .ok (.iload_n 3, 1) := by decide +kernel
theorem dX0_letCross_88 : decode cX0_letCross 88 = .ok (.iconst 1, 1) := by decide +kernel
theorem dX0_letCross_89 : decode cX0_letCross 89 = .ok (.aload_n 0, 1) := by decide +kernel
theorem dX0_letCross_90 : decode cX0_letCross 90 = .ok (.getfield 15, 3) := by decide +kernel
theorem dX0_letCross_93 : decode cX0_letCross 93 = .ok (.iload_n 3, 1) := by decide +kernel
theorem dX0_letCross_94 : decode cX0_letCross 94 = .ok (.iaload, 1) := by decide +kernel
theorem dX0_letCross_95 : decode cX0_letCross 95 = .ok (.isub, 1) := by decide +kernel
theorem dX0_letCross_96 : decode cX0_letCross 96 = .ok (.iastore, 1) := by decide +kernel
theorem dX0_letCross_97 : decode cX0_letCross 97 = .ok (.goto 21, 3) := by decide +kernel
theorem dX0_letCross_100 : decode cX0_letCross 100 = .ok (.aload_n 0, 1) := by decide +kernel
theorem dX0_letCross_101 : decode cX0_letCross 101 = .ok (.getfield 42, 3) := by decide +kernel
theorem dX0_letCross_104 : decode cX0_letCross 104 = .ok (.iload_n 2, 1) := by decide +kernel
theorem dX0_letCross_105 : decode cX0_letCross 105 = .ok (.iconst 2, 1) := by decide +kernel
theorem dX0_letCross_106 : decode cX0_letCross 106 = .ok (.iastore, 1) := by decide +kernel
theorem dX0_letCross_107 : decode cX0_letCross 107 = .ok (.iload_n 1, 1) := by decide +kernel
theorem dX0_letCross_108 : decode cX0_letCross 108 = .ok (.iconst (-1), 1) := by decide +kernel
theorem dX0_letCross_109 : decode cX0_letCross 109 = .ok (.if_icmp .ne 7, 3) := by decide +kernel
theorem dX0_letCross_112 : decode cX0_letCross 112 = .ok (.iload_n 2, 1) := by decide +kernel
theorem dX0_letCross_113 : decode cX0_letCross 113 = .ok (.goto 4, 3) := by decide +kernel
theorem dX0_letCross_116 : decode cX0_letCross 116 = .ok (.iload_n 1, 1) := by decide +kernel
theorem dX0_letCross_117 : decode cX0_letCross 117 = .ok (.istore_n 1, 1) := by decide +kernel
theorem dX0_letCross_118 : decode cX0_letCross 118 = .ok (.iinc 2 1, 3) := by decide +kernel
theorem dX0_letCross_121 : decode cX0_letCross 121 = .ok (.goto (-117), 3) := by decide +kernel
theorem dX0_letCross_124 : decode cX0_letCross 124 = .ok (.iload_n 1, 1) := by decide +kernel
theorem dX0_letCross_125 : decode cX0_letCross 125 = .ok (.ireturn, 1) := by decide +kernel
theorem dX0_frayAll_0 : decode cX0_frayAll 0 = .ok (.iconst 0, 1) := by decide +kernel
theorem dX0_frayAll_1 : decode cX0_frayAll 1 = .ok (.istore_n 1, 1) := by decide +kernel
theorem dX0_frayAll_2 : decode cX0_frayAll 2 = .ok (.iload_n 1, 1) := by decide +kernel
theorem dX0_frayAll_3 : decode cX0_frayAll 3 = .ok (.aload_n 0, 1) := by decide +kernel
theorem dX0_frayAll_4 : decode cX0_frayAll 4 = .ok (.getfield 57, 3) := by decide +kernel
theorem dX0_frayAll_7 : decode cX0_frayAll 7 = .ok (.if_icmp .ge 49, 3) := by decide +kernel
theorem dX0_frayAll_10 : decode cX0_frayAll 10 = .ok (.aload_n 0, 1) := by decide +kernel
theorem dX0_frayAll_11 : decode cX0_frayAll 11 = .ok (.iload_n 1, 1) := by decide +kernel
theorem dX0_frayAll_12 : decode cX0_frayAll 12 = .ok (.invokevirtual 76, 3) := by decide +kernel
theorem dX0_frayAll_15 : decode cX0_frayAll 15 = .ok (.ifCond .eq 35, 3) := by decide +kernel
theorem dX0_frayAll_18 : decode cX0_frayAll 18 = .ok (.aload_n 0, 1) := by decide +kernel
theorem dX0_frayAll_19 : decode cX0_frayAll 19 = .ok (.iload_n 1, 1) := by decide +kernel
theorem dX0_frayAll_20 : decode cX0_frayAll 20 = .ok (.aload_n 0, 1) := by decide +kernel
theorem dX0_frayAll_21 : decode cX0_frayAll 21 = .ok (.iload_n 1, 1) := by decide +kernel
theorem dX0_frayAll_22 : decode cX0_frayAll 22 = .ok (.invokevirtual 115, 3) := by decide +kernel
theorem dX0_frayAll_25 : decode cX0_frayAll 25 = .ok (.invokevirtual 101, 3) := by decide +kernel
theorem dX0_frayAll_28 : decode cX0_frayAll 28 = .ok (.aload_n 0, 1) := by decide +kernel
theorem dX0_frayAll_29 : decode cX0_frayAll 29 = .ok (.iload_n 1, 1) := by decide +kernel
theorem dX0_frayAll_30 : decode cX0_frayAll 30 = .ok (.aload_n 0, 1) := by decide +kernel
theorem dX0_frayAll_31 : decode cX0_frayAll 31 = .ok (.getfield 49, 3) := by decide +kernel
theorem dX0_frayAll_34 : decode cX0_frayAll 34 = .ok (.getfield 91, 3) := by decide +kernel
theorem dX0_frayAll_37 : decode cX0_frayAll 37 = .ok (.iconst 1, 1) := by decide +kernel
theorem dX0_frayAll_38 : decode cX0_frayAll 38 = .ok (.invokevirtual 105, 3) := by decide +kernel
theorem dX0_frayAll_41 : decode cX0_frayAll 41 = .ok (.bipush 99, 2) := by decide +kernel
theorem dX0_frayAll_43 : decode cX0_frayAll 43 = .ok (.iconst 2, 1) := by decide +kernel
theorem dX0_frayAll_44 : decode cX0_frayAll 44 = .ok (.invokestatic 109, 3) := by decide +kernel
theorem dX0_frayAll_47 : decode cX0_frayAll 47 = .ok (.invokevirtual 151, 3) := by decide +kernel
theorem dX0_frayAll_50 : decode cX0_frayAll 50 = .ok (.iinc 1 1, 3) := by decide +kernel
theorem dX0_frayAll_53 : decode cX0_frayAll 53 = .ok (.goto (-51), 3) := by decide +kernel
theorem dX0_frayAll_56 : decode cX0_frayAll 56 = .ok (.return_, 1) := by decide +kernel
theorem dX0_growAll_0 : decode cX0_growAll 0 = .ok (.iconst 0, 1) := by decide +kernel
theorem dX0_growAll_1 : decode cX0_growAll 1 = .ok (.istore_n 1, 1) := by decide +kernel
theorem dX0_growAll_2 : decode cX0_growAll 2 = .ok (.iload_n 1, 1) := by decide +kernel
theorem dX0_growAll_3 : decode cX0_growAll 3 = .ok (.aload_n 0, 1) := by decide +kernel
theorem dX0_growAll_4 : decode cX0_growAll 4 = .ok (.getfield 57, 3) := by decide +kernel
theorem dX0_growAll_7 : decode cX0_growAll 7 = .ok (.if_icmp .ge 63, 3) := by decide +kernel
theorem dX0_growAll_10 : decode cX0_growAll 10 = .ok (.aload_n 0, 1) := by decide +kernel
theorem dX0_growAll_11 : decode cX0_growAll 11 = .ok (.iload_n 1, 1) := by decide +kernel
theorem dX0_growAll_12 : decode cX0_growAll 12 = .ok (.invokevirtual 76, 3) := by decide +kernel
theorem dX0_growAll_15 : decode cX0_growAll 15 = .ok (.ifCond .eq 49, 3) := by decide +kernel
theorem dX0_growAll_18 : decode cX0_growAll 18 = .ok (.aload_n 0, 1) := by decide +kernel
theorem dX0_growAll_19 : decode cX0_growAll 19 = .ok (.iload_n 1, 1) := by decide +kernel
theorem dX0_growAll_20 : decode cX0_growAll 20 = .ok (.aload_n 0, 1) := by decide +kernel
theorem dX0_growAll_21 : decode cX0_growAll 21 = .ok (.iload_n 1, 1) := by decide +kernel
theorem dX0_growAll_22 : decode cX0_growAll 22 = .ok (.invokevirtual 115, 3) := by decide +kernel
theorem dX0_growAll_25 : decode cX0_growAll 25 = .ok (.invokevirtual 101, 3) := by decide +kernel
theorem dX0_growAll_28 : decode cX0_growAll 28 = .ok (.aload_n 0, 1) := by decide +kernel
theorem dX0_growAll_29 : decode cX0_growAll 29 = .ok (.getfield 24, 3) := by decide +kernel
theorem dX0_growAll_32 : decode cX0_growAll 32 = .ok (.iload_n 1, 1) := by decide +kernel
theorem dX0_growAll_33 : decode cX0_growAll 33 = .ok (.sipush 9999, 3) := by decide +kernel
theorem dX0_growAll_36 : decode cX0_growAll 36 = .ok (.aload_n 0, 1) := by decide +kernel
theorem dX0_growAll_37 : decode cX0_growAll 37 = .ok (.getfield 24, 3) := by decide +kernel
theorem dX0_growAll_40 : decode cX0_growAll 40 = .ok (.iload_n 1, 1) := by decide +kernel
theorem dX0_growAll_41 : decode cX0_growAll 41 = .ok (.iaload, 1) := by decide +kernel
theorem dX0_growAll_42 : decode cX0_growAll 42 = .ok (.aload_n 0, 1) := by decide +kernel
theorem dX0_growAll_43 : decode cX0_growAll 43 = .ok (.getfield 49, 3) := by decide +kernel
theorem dX0_growAll_46 : decode cX0_growAll 46 = .ok (.getfield 91, 3) := by decide +kernel
theorem dX0_growAll_49 : decode cX0_growAll 49 = .ok (.iconst 2, 1) := by decide +kernel
theorem dX0_growAll_50 : decode cX0_growAll 50 = .ok (.invokevirtual 105, 3) := by decide +kernel
theorem dX0_growAll_53 : decode cX0_growAll 53 = .ok (.bipush 99, 2) := by decide +kernel
theorem dX0_growAll_55 : decode cX0_growAll 55 = .ok (.iconst 0, 1) := by decide +kernel
theorem dX0_growAll_56 : decode cX0_growAll 56 = .ok (.invokestatic 109, 3) := by decide +kernel
theorem dX0_growAll_59 : decode cX0_growAll 59 = .ok (.iadd, 1) := by decide +kernel
theorem dX0_growAll_60 : decode cX0_growAll 60 = .ok (.invokestatic 154, 3) := by decide +kernel
theorem dX0_growAll_63 : decode cX0_growAll 63 = .ok (.iastore, 1) := by decide +kernel
theorem dX0_growAll_64 : decode cX0_growAll 64 = .ok (.iinc 1 1, 3) := by decide +kernel
theorem dX0_growAll_67 : decode cX0_growAll 67 = .ok (.goto (-65), 3) := by decide +kernel
theorem dX0_growAll_70 : decode cX0_growAll 70 = .ok (.return_, 1) := by decide +kernel
theorem dX0_payAll_0 : decode cX0_payAll 0 = .ok (.iconst 0, 1) := by decide +kernel
theorem dX0_payAll_1 : decode cX0_payAll 1 = .ok (.istore_n 1, 1) := by decide +kernel
theorem dX0_payAll_2 : decode cX0_payAll 2 = .ok (.iload_n 1, 1) := by decide +kernel
theorem dX0_payAll_3 : decode cX0_payAll 3 = .ok (.aload_n 0, 1) := by decide +kernel
theorem dX0_payAll_4 : decode cX0_payAll 4 = .ok (.getfield 57, 3) := by decide +kernel
theorem dX0_payAll_7 : decode cX0_payAll 7 = .ok (.if_icmp .ge 35, 3) := by decide +kernel
theorem dX0_payAll_10 : decode cX0_payAll 10 = .ok (.aload_n 0, 1) := by decide +kernel
theorem dX0_payAll_11 : decode cX0_payAll 11 = .ok (.iload_n 1, 1) := by decide +kernel
theorem dX0_payAll_12 : decode cX0_payAll 12 = .ok (.invokevirtual 159, 3) := by decide +kernel
theorem dX0_payAll_15 : decode cX0_payAll 15 = .ok (.ifCond .eq 21, 3) := by decide +kernel
theorem dX0_payAll_18 : decode cX0_payAll 18 = .ok (.aload_n 0, 1) := by decide +kernel
theorem dX0_payAll_19 : decode cX0_payAll 19 = .ok (.getfield 30, 3) := by decide +kernel
theorem dX0_payAll_22 : decode cX0_payAll 22 = .ok (.iload_n 1, 1) := by decide +kernel
theorem dX0_payAll_23 : decode cX0_payAll 23 = .ok (.iaload, 1) := by decide +kernel
theorem dX0_payAll_24 : decode cX0_payAll 24 = .ok (.aload_n 0, 1) := by decide +kernel
theorem dX0_payAll_25 : decode cX0_payAll 25 = .ok (.getfield 63, 3) := by decide +kernel
theorem dX0_payAll_28 : decode cX0_payAll 28 = .ok (.if_icmp .gt 8, 3) := by decide +kernel
theorem dX0_payAll_31 : decode cX0_payAll 31 = .ok (.aload_n 0, 1) := by decide +kernel
theorem dX0_payAll_32 : decode cX0_payAll 32 = .ok (.iload_n 1, 1) := by decide +kernel
theorem dX0_payAll_33 : decode cX0_payAll 33 = .ok (.invokevirtual 162, 3) := by decide +kernel
theorem dX0_payAll_36 : decode cX0_payAll 36 = .ok (.iinc 1 1, 3) := by decide +kernel
theorem dX0_payAll_39 : decode cX0_payAll 39 = .ok (.goto (-37), 3) := by decide +kernel
theorem dX0_payAll_42 : decode cX0_payAll 42 = .ok (.return_, 1) := by decide +kernel
