theorem d_Tg_init_0 : decode b_Tg_init 0 = .ok (.aload_n 0, 1) := by decide +kernel
theorem d_Tg_init_1 : decode b_Tg_init 1 = .ok (.invokespecial 3, 3) := by decide +kernel
theorem d_Tg_init_4 : decode b_Tg_init 4 = .ok (.aload_n 0, 1) := by decide +kernel
theorem d_Tg_init_5 : decode b_Tg_init 5 = .ok (.bipush 61, 2) := by decide +kernel
theorem d_Tg_init_7 : decode b_Tg_init 7 = .ok (.newarray .boolean, 2) := by decide +kernel
theorem d_Tg_init_9 : decode b_Tg_init 9 = .ok (.putfield 9, 3) := by decide +kernel
theorem d_Tg_init_12 : decode b_Tg_init 12 = .ok (.aload_n 0, 1) := by decide +kernel
theorem d_Tg_init_13 : decode b_Tg_init 13 = .ok (.bipush 61, 2) := by decide +kernel
theorem d_Tg_init_15 : decode b_Tg_init 15 = .ok (.newarray .int, 2) := by decide +kernel
theorem d_Tg_init_17 : decode b_Tg_init 17 = .ok (.putfield 15, 3) := by decide +kernel
theorem d_Tg_init_20 : decode b_Tg_init 20 = .ok (.aload_n 0, 1) := by decide +kernel
theorem d_Tg_init_21 : decode b_Tg_init 21 = .ok (.bipush 61, 2) := by decide +kernel
theorem d_Tg_init_23 : decode b_Tg_init 23 = .ok (.newarray .int, 2) := by decide +kernel
theorem d_Tg_init_25 : decode b_Tg_init 25 = .ok (.putfield 19, 3) := by decide +kernel
theorem d_Tg_init_28 : decode b_Tg_init 28 = .ok (.aload_n 0, 1) := by decide +kernel
theorem d_Tg_init_29 : decode b_Tg_init 29 = .ok (.bipush 61, 2) := by decide +kernel
theorem d_Tg_init_31 : decode b_Tg_init 31 = .ok (.newarray .int, 2) := by decide +kernel
theorem d_Tg_init_33 : decode b_Tg_init 33 = .ok (.putfield 22, 3) := by decide +kernel
theorem d_Tg_init_36 : decode b_Tg_init 36 = .ok (.aload_n 0, 1) := by decide +kernel
theorem d_Tg_init_37 : decode b_Tg_init 37 = .ok (.bipush 61, 2) := by decide +kernel
theorem d_Tg_init_39 : decode b_Tg_init 39 = .ok (.newarray .int, 2) := by decide +kernel
theorem d_Tg_init_41 : decode b_Tg_init 41 = .ok (.putfield 25, 3) := by decide +kernel
theorem d_Tg_init_44 : decode b_Tg_init 44 = .ok (.aload_n 0, 1) := by decide +kernel
theorem d_Tg_init_45 : decode b_Tg_init 45 = .ok (.bipush 61, 2) := by decide +kernel
theorem d_Tg_init_47 : decode b_Tg_init 47 = .ok (.newarray .int, 2) := by decide +kernel
theorem d_Tg_init_49 : decode b_Tg_init 49 = .ok (.putfield 28, 3) := by decide +kernel
theorem d_Tg_init_52 : decode b_Tg_init 52 = .ok (.aload_n 0, 1) := by decide +kernel
theorem d_Tg_init_53 : decode b_Tg_init 53 = .ok (.bipush 61, 2) := by decide +kernel
theorem d_Tg_init_55 : decode b_Tg_init 55 = .ok (.newarray .int, 2) := by decide +kernel
theorem d_Tg_init_57 : decode b_Tg_init 57 = .ok (.putfield 31, 3) := by decide +kernel
theorem d_Tg_init_60 : decode b_Tg_init 60 = .ok (.aload_n 0, 1) := by decide +kernel
theorem d_Tg_init_61 : decode b_Tg_init 61 = .ok (.bipush 61, 2) := by decide +kernel
theorem d_Tg_init_63 : decode b_Tg_init 63 = .ok (.newarray .int, 2) := by decide +kernel
theorem d_Tg_init_65 : decode b_Tg_init 65 = .ok (.putfield 34, 3) := by decide +kernel
theorem d_Tg_init_68 : decode b_Tg_init 68 = .ok (.aload_n 0, 1) := by decide +kernel
theorem d_Tg_init_69 : decode b_Tg_init 69 = .ok (.bipush 61, 2) := by decide +kernel
theorem d_Tg_init_71 : decode b_Tg_init 71 = .ok (.newarray .int, 2) := by decide +kernel
theorem d_Tg_init_73 : decode b_Tg_init 73 = .ok (.putfield 37, 3) := by decide +kernel
theorem d_Tg_init_76 : decode b_Tg_init 76 = .ok (.aload_n 0, 1) := by decide +kernel
theorem d_Tg_init_77 : decode b_Tg_init 77 = .ok (.bipush 61, 2) := by decide +kernel
theorem d_Tg_init_79 : decode b_Tg_init 79 = .ok (.newarray .int, 2) := by decide +kernel
theorem d_Tg_init_81 : decode b_Tg_init 81 = .ok (.putfield 40, 3) := by decide +kernel
theorem d_Tg_init_84 : decode b_Tg_init 84 = .ok (.aload_n 0, 1) := by decide +kernel
theorem d_Tg_init_85 : decode b_Tg_init 85 = .ok (.sipush 488, 3) := by decide +kernel
theorem d_Tg_init_88 : decode b_Tg_init 88 = .ok (.newarray .int, 2) := by decide +kernel
theorem d_Tg_init_90 : decode b_Tg_init 90 = .ok (.putfield 43, 3) := by decide +kernel
theorem d_Tg_init_93 : decode b_Tg_init 93 = .ok (.aload_n 0, 1) := by decide +kernel
theorem d_Tg_init_94 : decode b_Tg_init 94 = .ok (.iconst 0, 1) := by decide +kernel
theorem d_Tg_init_95 : decode b_Tg_init 95 = .ok (.putfield 46, 3) := by decide +kernel
theorem d_Tg_init_98 : decode b_Tg_init 98 = .ok (.aload_n 0, 1) := by decide +kernel
theorem d_Tg_init_99 : decode b_Tg_init 99 = .ok (.iconst 0, 1) := by decide +kernel
theorem d_Tg_init_100 : decode b_Tg_init 100 = .ok (.iconst 0, 1) := by decide +kernel
theorem d_Tg_init_101 : decode b_Tg_init 101 = .ok (.iconst 0, 1) := by decide +kernel
theorem d_Tg_init_102 : decode b_Tg_init 102 = .ok (.sipush 200, 3) := by decide +kernel
theorem d_Tg_init_105 : decode b_Tg_init 105 = .ok (.invokevirtual 50, 3) := by decide +kernel
theorem d_Tg_init_108 : decode b_Tg_init 108 = .ok (.pop, 1) := by decide +kernel
theorem d_Tg_init_109 : decode b_Tg_init 109 = .ok (.aload_n 0, 1) := by decide +kernel
theorem d_Tg_init_110 : decode b_Tg_init 110 = .ok (.iconst 3, 1) := by decide +kernel
theorem d_Tg_init_111 : decode b_Tg_init 111 = .ok (.iconst 1, 1) := by decide +kernel
theorem d_Tg_init_112 : decode b_Tg_init 112 = .ok (.iconst 0, 1) := by decide +kernel
theorem d_Tg_init_113 : decode b_Tg_init 113 = .ok (.iconst 2, 1) := by decide +kernel
theorem d_Tg_init_114 : decode b_Tg_init 114 = .ok (.invokevirtual 50, 3) := by decide +kernel
theorem d_Tg_init_117 : decode b_Tg_init 117 = .ok (.istore_n 1, 1) := by decide +kernel
theorem d_Tg_init_118 : decode b_Tg_init 118 = .ok (.aload_n 0, 1) := by decide +kernel
theorem d_Tg_init_119 : decode b_Tg_init 119 = .ok (.iload_n 1, 1) := by decide +kernel
theorem d_Tg_init_120 : decode b_Tg_init 120 = .ok (.iconst 1, 1) := by decide +kernel
theorem d_Tg_init_121 : decode b_Tg_init 121 = .ok (.invokevirtual 54, 3) := by decide +kernel
theorem d_Tg_init_124 : decode b_Tg_init 124 = .ok (.return_, 1) := by decide +kernel
theorem d_Tg_takeFrom_0 : decode b_Tg_takeFrom 0 = .ok (.aload_n 1, 1) := by decide +kernel
theorem d_Tg_takeFrom_1 : decode b_Tg_takeFrom 1 = .ok (.getfield 9, 3) := by decide +kernel
theorem d_Tg_takeFrom_4 : decode b_Tg_takeFrom 4 = .ok (.iconst 0, 1) := by decide +kernel
theorem d_Tg_takeFrom_5 : decode b_Tg_takeFrom 5 = .ok (.aload_n 0, 1) := by decide +kernel
theorem d_Tg_takeFrom_6 : decode b_Tg_takeFrom 6 = .ok (.getfield 9, 3) := by decide +kernel
theorem d_Tg_takeFrom_9 : decode b_Tg_takeFrom 9 = .ok (.iconst 0, 1) := by decide +kernel
theorem d_Tg_takeFrom_10 : decode b_Tg_takeFrom 10 = .ok (.aload_n 0, 1) := by decide +kernel
theorem d_Tg_takeFrom_11 : decode b_Tg_takeFrom 11 = .ok (.getfield 9, 3) := by decide +kernel
theorem d_Tg_takeFrom_14 : decode b_Tg_takeFrom 14 = .ok (.arraylength, 1) := by decide +kernel
theorem d_Tg_takeFrom_15 : decode b_Tg_takeFrom 15 = .ok (.invokestatic 58, 3) := by decide +kernel
theorem d_Tg_takeFrom_18 : decode b_Tg_takeFrom 18 = .ok (.aload_n 1, 1) := by decide +kernel
theorem d_Tg_takeFrom_19 : decode b_Tg_takeFrom 19 = .ok (.getfield 15, 3) := by decide +kernel
theorem d_Tg_takeFrom_22 : decode b_Tg_takeFrom 22 = .ok (.iconst 0, 1) := by decide +kernel
theorem d_Tg_takeFrom_23 : decode b_Tg_takeFrom 23 = .ok (.aload_n 0, 1) := by decide +kernel
theorem d_Tg_takeFrom_24 : decode b_Tg_takeFrom 24 = .ok (.getfield 15, 3) := by decide +kernel
theorem d_Tg_takeFrom_27 : decode b_Tg_takeFrom 27 = .ok (.iconst 0, 1) := by decide +kernel
theorem d_Tg_takeFrom_28 : decode b_Tg_takeFrom 28 = .ok (.aload_n 0, 1) := by decide +kernel
theorem d_Tg_takeFrom_29 : decode b_Tg_takeFrom 29 = .ok (.getfield 15, 3) := by decide +kernel
theorem d_Tg_takeFrom_32 : decode b_Tg_takeFrom 32 = .ok (.arraylength, 1) := by decide +kernel
theorem d_Tg_takeFrom_33 : decode b_Tg_takeFrom 33 = .ok (.invokestatic 58, 3) := by decide +kernel
theorem d_Tg_takeFrom_36 : decode b_Tg_takeFrom 36 = .ok (.aload_n 1, 1) := by decide +kernel
theorem d_Tg_takeFrom_37 : decode b_Tg_takeFrom 37 = .ok (.getfield 19, 3) := by decide +kernel
theorem d_Tg_takeFrom_40 : decode b_Tg_takeFrom 40 = .ok (.iconst 0, 1) := by decide +kernel
theorem d_Tg_takeFrom_41 : decode b_Tg_takeFrom 41 = .ok (.aload_n 0, 1) := by decide +kernel
theorem d_Tg_takeFrom_42 : decode b_Tg_takeFrom 42 = .ok (.getfield 19, 3) := by decide +kernel
theorem d_Tg_takeFrom_45 : decode b_Tg_takeFrom 45 = .ok (.iconst 0, 1) := by decide +kernel
theorem d_Tg_takeFrom_46 : decode b_Tg_takeFrom 46 = .ok (.aload_n 0, 1) := by decide +kernel
theorem d_Tg_takeFrom_47 : decode b_Tg_takeFrom 47 = .ok (.getfield 19, 3) := by decide +kernel
theorem d_Tg_takeFrom_50 : decode b_Tg_takeFrom 50 = .ok (.arraylength, 1) := by decide +kernel
theorem d_Tg_takeFrom_51 : decode b_Tg_takeFrom 51 = .ok (.invokestatic 58, 3) := by decide +kernel
theorem d_Tg_takeFrom_54 : decode b_Tg_takeFrom 54 = .ok (.aload_n 1, 1) := by decide +kernel
theorem d_Tg_takeFrom_55 : decode b_Tg_takeFrom 55 = .ok (.getfield 22, 3) := by decide +kernel
theorem d_Tg_takeFrom_58 : decode b_Tg_takeFrom 58 = .ok (.iconst 0, 1) := by decide +kernel
theorem d_Tg_takeFrom_59 : decode b_Tg_takeFrom 59 = .ok (.aload_n 0, 1) := by decide +kernel
theorem d_Tg_takeFrom_60 : decode b_Tg_takeFrom 60 = .ok (.getfield 22, 3) := by decide +kernel
theorem d_Tg_takeFrom_63 : decode b_Tg_takeFrom 63 = .ok (.iconst 0, 1) := by decide +kernel
theorem d_Tg_takeFrom_64 : decode b_Tg_takeFrom 64 = .ok (.aload_n 0, 1) := by decide +kernel
theorem d_Tg_takeFrom_65 : decode b_Tg_takeFrom 65 = .ok (.getfield 22, 3) := by decide +kernel
theorem d_Tg_takeFrom_68 : decode b_Tg_takeFrom 68 = .ok (.arraylength, 1) := by decide +kernel
theorem d_Tg_takeFrom_69 : decode b_Tg_takeFrom 69 = .ok (.invokestatic 58, 3) := by decide +kernel
theorem d_Tg_takeFrom_72 : decode b_Tg_takeFrom 72 = .ok (.aload_n 1, 1) := by decide +kernel
theorem d_Tg_takeFrom_73 : decode b_Tg_takeFrom 73 = .ok (.getfield 25, 3) := by decide +kernel
theorem d_Tg_takeFrom_76 : decode b_Tg_takeFrom 76 = .ok (.iconst 0, 1) := by decide +kernel
theorem d_Tg_takeFrom_77 : decode b_Tg_takeFrom 77 = .ok (.aload_n 0, 1) := by decide +kernel
theorem d_Tg_takeFrom_78 : decode b_Tg_takeFrom 78 = .ok (.getfield 25, 3) := by decide +kernel
theorem d_Tg_takeFrom_81 : decode b_Tg_takeFrom 81 = .ok (.iconst 0, 1) := by decide +kernel
theorem d_Tg_takeFrom_82 : decode b_Tg_takeFrom 82 = .ok (.aload_n 0, 1) := by decide +kernel
theorem d_Tg_takeFrom_83 : decode b_Tg_takeFrom 83 = .ok (.getfield 25, 3) := by decide +kernel
theorem d_Tg_takeFrom_86 : decode b_Tg_takeFrom 86 = .ok (.arraylength, 1) := by decide +kernel
theorem d_Tg_takeFrom_87 : decode b_Tg_takeFrom 87 = .ok (.invokestatic 58, 3) := by decide +kernel
theorem d_Tg_takeFrom_90 : decode b_Tg_takeFrom 90 = .ok (.aload_n 1, 1) := by decide +kernel
theorem d_Tg_takeFrom_91 : decode b_Tg_takeFrom 91 = .ok (.getfield 28, 3) := by decide +kernel
theorem d_Tg_takeFrom_94 : decode b_Tg_takeFrom 94 = .ok (.iconst 0, 1) := by decide +kernel
theorem d_Tg_takeFrom_95 : decode b_Tg_takeFrom 95 = .ok (.aload_n 0, 1) := by decide +kernel
theorem d_Tg_takeFrom_96 : decode b_Tg_takeFrom 96 = .ok (.getfield 28, 3) := by decide +kernel
theorem d_Tg_takeFrom_99 : decode b_Tg_takeFrom 99 = .ok (.iconst 0, 1) := by decide +kernel
theorem d_Tg_takeFrom_100 : decode b_Tg_takeFrom 100 = .ok (.aload_n 0, 1) := by decide +kernel
theorem d_Tg_takeFrom_101 : decode b_Tg_takeFrom 101 = .ok (.getfield 28, 3) := by decide +kernel
theorem d_Tg_takeFrom_104 : decode b_Tg_takeFrom 104 = .ok (.arraylength, 1) := by decide +kernel
theorem d_Tg_takeFrom_105 : decode b_Tg_takeFrom 105 = .ok (.invokestatic 58, 3) := by decide +kernel
theorem d_Tg_takeFrom_108 : decode b_Tg_takeFrom 108 = .ok (.aload_n 1, 1) := by decide +kernel
theorem d_Tg_takeFrom_109 : decode b_Tg_takeFrom 109 = .ok (.getfield 31, 3) := by decide +kernel
theorem d_Tg_takeFrom_112 : decode b_Tg_takeFrom 112 = .ok (.iconst 0, 1) := by decide +kernel
theorem d_Tg_takeFrom_113 : decode b_Tg_takeFrom 113 = .ok (.aload_n 0, 1) := by decide +kernel
theorem d_Tg_takeFrom_114 : decode b_Tg_takeFrom 114 = .ok (.getfield 31, 3) := by decide +kernel
theorem d_Tg_takeFrom_117 : decode b_Tg_takeFrom 117 = .ok (.iconst 0, 1) := by decide +kernel
theorem d_Tg_takeFrom_118 : decode b_Tg_takeFrom 118 = .ok (.aload_n 0, 1) := by decide +kernel
theorem d_Tg_takeFrom_119 : decode b_Tg_takeFrom 119 = .ok (.getfield 31, 3) := by decide +kernel
theorem d_Tg_takeFrom_122 : decode b_Tg_takeFrom 122 = .ok (.arraylength, 1) := by decide +kernel
theorem d_Tg_takeFrom_123 : decode b_Tg_takeFrom 123 = .ok (.invokestatic 58, 3) := by decide +kernel
theorem d_Tg_takeFrom_126 : decode b_Tg_takeFrom 126 = .ok (.aload_n 1, 1) := by decide +kernel
theorem d_Tg_takeFrom_127 : decode b_Tg_takeFrom 127 = .ok (.getfield 34, 3) := by decide +kernel
theorem d_Tg_takeFrom_130 : decode b_Tg_takeFrom 130 = .ok (.iconst 0, 1) := by decide +kernel
theorem d_Tg_takeFrom_131 : decode b_Tg_takeFrom 131 = .ok (.aload_n 0, 1) := by decide +kernel
theorem d_Tg_takeFrom_132 : decode b_Tg_takeFrom 132 = .ok (.getfield 34, 3) := by decide +kernel
theorem d_Tg_takeFrom_135 : decode b_Tg_takeFrom 135 = .ok (.iconst 0, 1) := by decide +kernel
theorem d_Tg_takeFrom_136 : decode b_Tg_takeFrom 136 = .ok (.aload_n 0, 1) := by decide +kernel
theorem d_Tg_takeFrom_137 : decode b_Tg_takeFrom 137 = .ok (.getfield 34, 3) := by decide +kernel
theorem d_Tg_takeFrom_140 : decode b_Tg_takeFrom 140 = .ok (.arraylength, 1) := by decide +kernel
theorem d_Tg_takeFrom_141 : decode b_Tg_takeFrom 141 = .ok (.invokestatic 58, 3) := by decide +kernel
theorem d_Tg_takeFrom_144 : decode b_Tg_takeFrom 144 = .ok (.aload_n 1, 1) := by decide +kernel
theorem d_Tg_takeFrom_145 : decode b_Tg_takeFrom 145 = .ok (.getfield 37, 3) := by decide +kernel
theorem d_Tg_takeFrom_148 : decode b_Tg_takeFrom 148 = .ok (.iconst 0, 1) := by decide +kernel
theorem d_Tg_takeFrom_149 : decode b_Tg_takeFrom 149 = .ok (.aload_n 0, 1) := by decide +kernel
theorem d_Tg_takeFrom_150 : decode b_Tg_takeFrom 150 = .ok (.getfield 37, 3) := by decide +kernel
theorem d_Tg_takeFrom_153 : decode b_Tg_takeFrom 153 = .ok (.iconst 0, 1) := by decide +kernel
theorem d_Tg_takeFrom_154 : decode b_Tg_takeFrom 154 = .ok (.aload_n 0, 1) := by decide +kernel
theorem d_Tg_takeFrom_155 : decode b_Tg_takeFrom 155 = .ok (.getfield 37, 3) := by decide +kernel
theorem d_Tg_takeFrom_158 : decode b_Tg_takeFrom 158 = .ok (.arraylength, 1) := by decide +kernel
theorem d_Tg_takeFrom_159 : decode b_Tg_takeFrom 159 = .ok (.invokestatic 58, 3) := by decide +kernel
theorem d_Tg_takeFrom_162 : decode b_Tg_takeFrom 162 = .ok (.aload_n 1, 1) := by decide +kernel
theorem d_Tg_takeFrom_163 : decode b_Tg_takeFrom 163 = .ok (.getfield 40, 3) := by decide +kernel
theorem d_Tg_takeFrom_166 : decode b_Tg_takeFrom 166 = .ok (.iconst 0, 1) := by decide +kernel
theorem d_Tg_takeFrom_167 : decode b_Tg_takeFrom 167 = .ok (.aload_n 0, 1) := by decide +kernel
theorem d_Tg_takeFrom_168 : decode b_Tg_takeFrom 168 = .ok (.getfield 40, 3) := by decide +kernel
theorem d_Tg_takeFrom_171 : decode b_Tg_takeFrom 171 = .ok (.iconst 0, 1) := by decide +kernel
theorem d_Tg_takeFrom_172 : decode b_Tg_takeFrom 172 = .ok (.aload_n 0, 1) := by decide +kernel
theorem d_Tg_takeFrom_173 : decode b_Tg_takeFrom 173 = .ok (.getfield 40, 3) := by decide +kernel
theorem d_Tg_takeFrom_176 : decode b_Tg_takeFrom 176 = .ok (.arraylength, 1) := by decide +kernel
theorem d_Tg_takeFrom_177 : decode b_Tg_takeFrom 177 = .ok (.invokestatic 58, 3) := by decide +kernel
theorem d_Tg_takeFrom_180 : decode b_Tg_takeFrom 180 = .ok (.aload_n 1, 1) := by decide +kernel
theorem d_Tg_takeFrom_181 : decode b_Tg_takeFrom 181 = .ok (.getfield 43, 3) := by decide +kernel
theorem d_Tg_takeFrom_184 : decode b_Tg_takeFrom 184 = .ok (.iconst 0, 1) := by decide +kernel
theorem d_Tg_takeFrom_185 : decode b_Tg_takeFrom 185 = .ok (.aload_n 0, 1) := by decide +kernel
theorem d_Tg_takeFrom_186 : decode b_Tg_takeFrom 186 = .ok (.getfield 43, 3) := by decide +kernel
theorem d_Tg_takeFrom_189 : decode b_Tg_takeFrom 189 = .ok (.iconst 0, 1) := by decide +kernel
theorem d_Tg_takeFrom_190 : decode b_Tg_takeFrom 190 = .ok (.aload_n 0, 1) := by decide +kernel
theorem d_Tg_takeFrom_191 : decode b_Tg_takeFrom 191 = .ok (.getfield 43, 3) := by decide +kernel
theorem d_Tg_takeFrom_194 : decode b_Tg_takeFrom 194 = .ok (.arraylength, 1) := by decide +kernel
theorem d_Tg_takeFrom_195 : decode b_Tg_takeFrom 195 = .ok (.invokestatic 58, 3) := by decide +kernel
theorem d_Tg_takeFrom_198 : decode b_Tg_takeFrom 198 = .ok (.aload_n 0, 1) := by decide +kernel
theorem d_Tg_takeFrom_199 : decode b_Tg_takeFrom 199 = .ok (.aload_n 1, 1) := by decide +kernel
theorem d_Tg_takeFrom_200 : decode b_Tg_takeFrom 200 = .ok (.getfield 46, 3) := by decide +kernel
theorem d_Tg_takeFrom_203 : decode b_Tg_takeFrom 203 = .ok (.putfield 46, 3) := by decide +kernel
theorem d_Tg_takeFrom_206 : decode b_Tg_takeFrom 206 = .ok (.return_, 1) := by decide +kernel
theorem d_Tg_hasNumberLeft_0 : decode b_Tg_hasNumberLeft 0 = .ok (.aload_n 0, 1) := by decide +kernel
theorem d_Tg_hasNumberLeft_1 : decode b_Tg_hasNumberLeft 1 = .ok (.getfield 46, 3) := by decide +kernel
theorem d_Tg_hasNumberLeft_4 : decode b_Tg_hasNumberLeft 4 = .ok (.bipush 60, 2) := by decide +kernel
theorem d_Tg_hasNumberLeft_6 : decode b_Tg_hasNumberLeft 6 = .ok (.if_icmp .ge 7, 3) := by decide +kernel
theorem d_Tg_hasNumberLeft_9 : decode b_Tg_hasNumberLeft 9 = .ok (.iconst 1, 1) := by decide +kernel
theorem d_Tg_hasNumberLeft_10 : decode b_Tg_hasNumberLeft 10 = .ok (.goto 4, 3) := by decide +kernel
theorem d_Tg_hasNumberLeft_13 : decode b_Tg_hasNumberLeft 13 = .ok (.iconst 0, 1) := by decide +kernel
theorem d_Tg_hasNumberLeft_14 : decode b_Tg_hasNumberLeft 14 = .ok (.ireturn, 1) := by decide +kernel
theorem d_Tg_add_0 : decode b_Tg_add 0 = .ok (.aload_n 0, 1) := by decide +kernel
theorem d_Tg_add_1 : decode b_Tg_add 1 = .ok (.getfield 46, 3) := by decide +kernel
theorem d_Tg_add_4 : decode b_Tg_add 4 = .ok (.iconst 1, 1) := by decide +kernel
theorem d_Tg_add_5 : decode b_Tg_add 5 = .ok (.iadd, 1) := by decide +kernel
theorem d_Tg_add_6 : decode b_Tg_add 6 = .ok (.istore 5, 2) := by decide +kernel
theorem d_Tg_add_8 : decode b_Tg_add 8 = .ok (.aload_n 0, 1) := by decide +kernel
theorem d_Tg_add_9 : decode b_Tg_add 9 = .ok (.getfield 9, 3) := by decide +kernel
theorem d_Tg_add_12 : decode b_Tg_add 12 = .ok (.iload 5, 2) := by decide +kernel
theorem d_Tg_add_14 : decode b_Tg_add 14 = .ok (.iconst 1, 1) := by decide +kernel
theorem d_Tg_add_15 : decode b_Tg_add 15 = .ok (.bastore, 1) := by decide +kernel
theorem d_Tg_add_16 : decode b_Tg_add 16 = .ok (.aload_n 0, 1) := by decide +kernel
theorem d_Tg_add_17 : decode b_Tg_add 17 = .ok (.getfield 15, 3) := by decide +kernel
theorem d_Tg_add_20 : decode b_Tg_add 20 = .ok (.iload 5, 2) := by decide +kernel
theorem d_Tg_add_22 : decode b_Tg_add 22 = .ok (.iload_n 1, 1) := by decide +kernel
theorem d_Tg_add_23 : decode b_Tg_add 23 = .ok (.iastore, 1) := by decide +kernel
theorem d_Tg_add_24 : decode b_Tg_add 24 = .ok (.aload_n 0, 1) := by decide +kernel
theorem d_Tg_add_25 : decode b_Tg_add 25 = .ok (.getfield 19, 3) := by decide +kernel
theorem d_Tg_add_28 : decode b_Tg_add 28 = .ok (.iload 5, 2) := by decide +kernel
theorem d_Tg_add_30 : decode b_Tg_add 30 = .ok (.iload_n 3, 1) := by decide +kernel
theorem d_Tg_add_31 : decode b_Tg_add 31 = .ok (.iastore, 1) := by decide +kernel
theorem d_Tg_add_32 : decode b_Tg_add 32 = .ok (.aload_n 0, 1) := by decide +kernel
theorem d_Tg_add_33 : decode b_Tg_add 33 = .ok (.getfield 22, 3) := by decide +kernel
theorem d_Tg_add_36 : decode b_Tg_add 36 = .ok (.iload 5, 2) := by decide +kernel
theorem d_Tg_add_38 : decode b_Tg_add 38 = .ok (.iload 4, 2) := by decide +kernel
theorem d_Tg_add_40 : decode b_Tg_add 40 = .ok (.iastore, 1) := by decide +kernel
theorem d_Tg_add_41 : decode b_Tg_add 41 = .ok (.aload_n 0, 1) := by decide +kernel
theorem d_Tg_add_42 : decode b_Tg_add 42 = .ok (.getfield 25, 3) := by decide +kernel
theorem d_Tg_add_45 : decode b_Tg_add 45 = .ok (.iload 5, 2) := by decide +kernel
theorem d_Tg_add_47 : decode b_Tg_add 47 = .ok (.iload_n 2, 1) := by decide +kernel
theorem d_Tg_add_48 : decode b_Tg_add 48 = .ok (.iastore, 1) := by decide +kernel
theorem d_Tg_add_49 : decode b_Tg_add 49 = .ok (.aload_n 0, 1) := by decide +kernel
theorem d_Tg_add_50 : decode b_Tg_add 50 = .ok (.getfield 28, 3) := by decide +kernel
theorem d_Tg_add_53 : decode b_Tg_add 53 = .ok (.iload 5, 2) := by decide +kernel
theorem d_Tg_add_55 : decode b_Tg_add 55 = .ok (.iload_n 2, 1) := by decide +kernel
theorem d_Tg_add_56 : decode b_Tg_add 56 = .ok (.ifCond .ne 7, 3) := by decide +kernel
theorem d_Tg_add_59 : decode b_Tg_add 59 = .ok (.iconst 0, 1) := by decide +kernel
theorem d_Tg_add_60 : decode b_Tg_add 60 = .ok (.goto 11, 3) := by decide +kernel
theorem d_Tg_add_63 : decode b_Tg_add 63 = .ok (.aload_n 0, 1) := by decide +kernel
theorem d_Tg_add_64 : decode b_Tg_add 64 = .ok (.getfield 28, 3) := by decide +kernel
theorem d_Tg_add_67 : decode b_Tg_add 67 = .ok (.iload_n 2, 1) := by decide +kernel
theorem d_Tg_add_68 : decode b_Tg_add 68 = .ok (.iaload, 1) := by decide +kernel
theorem d_Tg_add_69 : decode b_Tg_add 69 = .ok (.iconst 1, 1) := by decide +kernel
theorem d_Tg_add_70 : decode b_Tg_add 70 = .ok (.iadd, 1) := by decide +kernel
theorem d_Tg_add_71 : decode b_Tg_add 71 = .ok (.iastore, 1) := by decide +kernel
theorem d_Tg_add_72 : decode b_Tg_add 72 = .ok (.aload_n 0, 1) := by decide +kernel
theorem d_Tg_add_73 : decode b_Tg_add 73 = .ok (.getfield 31, 3) := by decide +kernel
theorem d_Tg_add_76 : decode b_Tg_add 76 = .ok (.iload 5, 2) := by decide +kernel
theorem d_Tg_add_78 : decode b_Tg_add 78 = .ok (.iconst (-1), 1) := by decide +kernel
theorem d_Tg_add_79 : decode b_Tg_add 79 = .ok (.iastore, 1) := by decide +kernel
theorem d_Tg_add_80 : decode b_Tg_add 80 = .ok (.aload_n 0, 1) := by decide +kernel
theorem d_Tg_add_81 : decode b_Tg_add 81 = .ok (.iload 5, 2) := by decide +kernel
theorem d_Tg_add_83 : decode b_Tg_add 83 = .ok (.putfield 46, 3) := by decide +kernel
theorem d_Tg_add_86 : decode b_Tg_add 86 = .ok (.iload 5, 2) := by decide +kernel
theorem d_Tg_add_88 : decode b_Tg_add 88 = .ok (.ireturn, 1) := by decide +kernel
theorem d_Tg_isThere_0 : decode b_Tg_isThere 0 = .ok (.iload_n 1, 1) := by decide +kernel
theorem d_Tg_isThere_1 : decode b_Tg_isThere 1 = .ok (.iconst 1, 1) := by decide +kernel
theorem d_Tg_isThere_2 : decode b_Tg_isThere 2 = .ok (.if_icmp .lt 22, 3) := by decide +kernel
theorem d_Tg_isThere_5 : decode b_Tg_isThere 5 = .ok (.iload_n 1, 1) := by decide +kernel
theorem d_Tg_isThere_6 : decode b_Tg_isThere 6 = .ok (.bipush 60, 2) := by decide +kernel
theorem d_Tg_isThere_8 : decode b_Tg_isThere 8 = .ok (.if_icmp .gt 16, 3) := by decide +kernel
theorem d_Tg_isThere_11 : decode b_Tg_isThere 11 = .ok (.aload_n 0, 1) := by decide +kernel
theorem d_Tg_isThere_12 : decode b_Tg_isThere 12 = .ok (.getfield 9, 3) := by decide +kernel
theorem d_Tg_isThere_15 : decode b_Tg_isThere 15 = .ok (.iload_n 1, 1) := by decide +kernel
theorem d_Tg_isThere_16 : decode b_Tg_isThere 16 = .ok (.baload, 1) := by decide +kernel
theorem d_Tg_isThere_17 : decode b_Tg_isThere 17 = .ok (.ifCond .eq 7, 3) := by decide +kernel
theorem d_Tg_isThere_20 : decode b_Tg_isThere 20 = .ok (.iconst 1, 1) := by decide +kernel
theorem d_Tg_isThere_21 : decode b_Tg_isThere 21 = .ok (.goto 4, 3) := by decide +kernel
theorem d_Tg_isThere_24 : decode b_Tg_isThere 24 = .ok (.iconst 0, 1) := by decide +kernel
theorem d_Tg_isThere_25 : decode b_Tg_isThere 25 = .ok (.ireturn, 1) := by decide +kernel
theorem d_Tg_isOfKind_0 : decode b_Tg_isOfKind 0 = .ok (.aload_n 0, 1) := by decide +kernel
theorem d_Tg_isOfKind_1 : decode b_Tg_isOfKind 1 = .ok (.getfield 15, 3) := by decide +kernel
theorem d_Tg_isOfKind_4 : decode b_Tg_isOfKind 4 = .ok (.iload_n 1, 1) := by decide +kernel
theorem d_Tg_isOfKind_5 : decode b_Tg_isOfKind 5 = .ok (.iaload, 1) := by decide +kernel
theorem d_Tg_isOfKind_6 : decode b_Tg_isOfKind 6 = .ok (.iload_n 2, 1) := by decide +kernel
theorem d_Tg_isOfKind_7 : decode b_Tg_isOfKind 7 = .ok (.if_icmp .ne 7, 3) := by decide +kernel
theorem d_Tg_isOfKind_10 : decode b_Tg_isOfKind 10 = .ok (.iconst 1, 1) := by decide +kernel
theorem d_Tg_isOfKind_11 : decode b_Tg_isOfKind 11 = .ok (.goto 4, 3) := by decide +kernel
theorem d_Tg_isOfKind_14 : decode b_Tg_isOfKind 14 = .ok (.iconst 0, 1) := by decide +kernel
theorem d_Tg_isOfKind_15 : decode b_Tg_isOfKind 15 = .ok (.ireturn, 1) := by decide +kernel
theorem d_Tg_isIn_0 : decode b_Tg_isIn 0 = .ok (.aload_n 0, 1) := by decide +kernel
theorem d_Tg_isIn_1 : decode b_Tg_isIn 1 = .ok (.getfield 9, 3) := by decide +kernel
theorem d_Tg_isIn_4 : decode b_Tg_isIn 4 = .ok (.iload_n 1, 1) := by decide +kernel
theorem d_Tg_isIn_5 : decode b_Tg_isIn 5 = .ok (.baload, 1) := by decide +kernel
theorem d_Tg_isIn_6 : decode b_Tg_isIn 6 = .ok (.ifCond .eq 17, 3) := by decide +kernel
theorem d_Tg_isIn_9 : decode b_Tg_isIn 9 = .ok (.aload_n 0, 1) := by decide +kernel
theorem d_Tg_isIn_10 : decode b_Tg_isIn 10 = .ok (.getfield 25, 3) := by decide +kernel
theorem d_Tg_isIn_13 : decode b_Tg_isIn 13 = .ok (.iload_n 1, 1) := by decide +kernel
theorem d_Tg_isIn_14 : decode b_Tg_isIn 14 = .ok (.iaload, 1) := by decide +kernel
theorem d_Tg_isIn_15 : decode b_Tg_isIn 15 = .ok (.iload_n 2, 1) := by decide +kernel
theorem d_Tg_isIn_16 : decode b_Tg_isIn 16 = .ok (.if_icmp .ne 7, 3) := by decide +kernel
theorem d_Tg_isIn_19 : decode b_Tg_isIn 19 = .ok (.iconst 1, 1) := by decide +kernel
theorem d_Tg_isIn_20 : decode b_Tg_isIn 20 = .ok (.goto 4, 3) := by decide +kernel
theorem d_Tg_isIn_23 : decode b_Tg_isIn 23 = .ok (.iconst 0, 1) := by decide +kernel
theorem d_Tg_isIn_24 : decode b_Tg_isIn 24 = .ok (.ireturn, 1) := by decide +kernel
theorem d_Tg_howMany_0 : decode b_Tg_howMany 0 = .ok (.iconst 0, 1) := by decide +kernel
theorem d_Tg_howMany_1 : decode b_Tg_howMany 1 = .ok (.istore_n 1, 1) := by decide +kernel
theorem d_Tg_howMany_2 : decode b_Tg_howMany 2 = .ok (.iconst 1, 1) := by decide +kernel
theorem d_Tg_howMany_3 : decode b_Tg_howMany 3 = .ok (.istore_n 2, 1) := by decide +kernel
theorem d_Tg_howMany_4 : decode b_Tg_howMany 4 = .ok (.iload_n 2, 1) := by decide +kernel
theorem d_Tg_howMany_5 : decode b_Tg_howMany 5 = .ok (.aload_n 0, 1) := by decide +kernel
theorem d_Tg_howMany_6 : decode b_Tg_howMany 6 = .ok (.getfield 46, 3) := by decide +kernel
theorem d_Tg_howMany_9 : decode b_Tg_howMany 9 = .ok (.if_icmp .gt 21, 3) := by decide +kernel
theorem d_Tg_howMany_12 : decode b_Tg_howMany 12 = .ok (.aload_n 0, 1) := by decide +kernel
theorem d_Tg_howMany_13 : decode b_Tg_howMany 13 = .ok (.getfield 9, 3) := by decide +kernel
theorem d_Tg_howMany_16 : decode b_Tg_howMany 16 = .ok (.iload_n 2, 1) := by decide +kernel
theorem d_Tg_howMany_17 : decode b_Tg_howMany 17 = .ok (.baload, 1) := by decide +kernel
theorem d_Tg_howMany_18 : decode b_Tg_howMany 18 = .ok (.ifCond .eq 6, 3) := by decide +kernel
theorem d_Tg_howMany_21 : decode b_Tg_howMany 21 = .ok (.iinc 1 1, 3) := by decide +kernel
theorem d_Tg_howMany_24 : decode b_Tg_howMany 24 = .ok (.iinc 2 1, 3) := by decide +kernel
theorem d_Tg_howMany_27 : decode b_Tg_howMany 27 = .ok (.goto (-23), 3) := by decide +kernel
theorem d_Tg_howMany_30 : decode b_Tg_howMany 30 = .ok (.iload_n 1, 1) := by decide +kernel
theorem d_Tg_howMany_31 : decode b_Tg_howMany 31 = .ok (.ireturn, 1) := by decide +kernel
theorem d_Tg_nthIn_0 : decode b_Tg_nthIn 0 = .ok (.iconst 0, 1) := by decide +kernel
theorem d_Tg_nthIn_1 : decode b_Tg_nthIn 1 = .ok (.istore_n 3, 1) := by decide +kernel
theorem d_Tg_nthIn_2 : decode b_Tg_nthIn 2 = .ok (.iconst 1, 1) := by decide +kernel
theorem d_Tg_nthIn_3 : decode b_Tg_nthIn 3 = .ok (.istore 4, 2) := by decide +kernel
theorem d_Tg_nthIn_5 : decode b_Tg_nthIn 5 = .ok (.iload 4, 2) := by decide +kernel
theorem d_Tg_nthIn_7 : decode b_Tg_nthIn 7 = .ok (.aload_n 0, 1) := by decide +kernel
theorem d_Tg_nthIn_8 : decode b_Tg_nthIn 8 = .ok (.getfield 46, 3) := by decide +kernel
theorem d_Tg_nthIn_11 : decode b_Tg_nthIn 11 = .ok (.if_icmp .gt 30, 3) := by decide +kernel
theorem d_Tg_nthIn_14 : decode b_Tg_nthIn 14 = .ok (.aload_n 0, 1) := by decide +kernel
theorem d_Tg_nthIn_15 : decode b_Tg_nthIn 15 = .ok (.iload 4, 2) := by decide +kernel
theorem d_Tg_nthIn_17 : decode b_Tg_nthIn 17 = .ok (.iload_n 1, 1) := by decide +kernel
theorem d_Tg_nthIn_18 : decode b_Tg_nthIn 18 = .ok (.invokevirtual 64, 3) := by decide +kernel
theorem d_Tg_nthIn_21 : decode b_Tg_nthIn 21 = .ok (.ifCond .eq 14, 3) := by decide +kernel
theorem d_Tg_nthIn_24 : decode b_Tg_nthIn 24 = .ok (.iload_n 3, 1) := by decide +kernel
theorem d_Tg_nthIn_25 : decode b_Tg_nthIn 25 = .ok (.iload_n 2, 1) := by decide +kernel
theorem d_Tg_nthIn_26 : decode b_Tg_nthIn 26 = .ok (.if_icmp .ne 6, 3) := by decide +kernel
theorem d_Tg_nthIn_29 : decode b_Tg_nthIn 29 = .ok (.iload 4, 2) := by decide +kernel
theorem d_Tg_nthIn_31 : decode b_Tg_nthIn 31 = .ok (.ireturn, 1) := by decide +kernel
theorem d_Tg_nthIn_32 : decode b_Tg_nthIn 32 = .ok (.iinc 3 1, 3) := by decide +kernel
theorem d_Tg_nthIn_35 : decode b_Tg_nthIn 35 = .ok (.iinc 4 1, 3) := by decide +kernel
theorem d_Tg_nthIn_38 : decode b_Tg_nthIn 38 = .ok (.goto (-33), 3) := by decide +kernel
theorem d_Tg_nthIn_41 : decode b_Tg_nthIn 41 = .ok (.iconst 0, 1) := by decide +kernel
theorem d_Tg_nthIn_42 : decode b_Tg_nthIn 42 = .ok (.ireturn, 1) := by decide +kernel
theorem d_Tg_useOf_0 : decode b_Tg_useOf 0 = .ok (.aload_n 0, 1) := by decide +kernel
theorem d_Tg_useOf_1 : decode b_Tg_useOf 1 = .ok (.getfield 15, 3) := by decide +kernel
theorem d_Tg_useOf_4 : decode b_Tg_useOf 4 = .ok (.iload_n 1, 1) := by decide +kernel
theorem d_Tg_useOf_5 : decode b_Tg_useOf 5 = .ok (.iaload, 1) := by decide +kernel
theorem d_Tg_useOf_6 : decode b_Tg_useOf 6 = .ok (.lookupswitch 43 #[(0, 26), (1, 34)], 26) := by decide +kernel
theorem d_Tg_useOf_32 : decode b_Tg_useOf 32 = .ok (.iconst 1, 1) := by decide +kernel
theorem d_Tg_useOf_33 : decode b_Tg_useOf 33 = .ok (.aload_n 0, 1) := by decide +kernel
theorem d_Tg_useOf_34 : decode b_Tg_useOf 34 = .ok (.iload_n 1, 1) := by decide +kernel
theorem d_Tg_useOf_35 : decode b_Tg_useOf 35 = .ok (.invokevirtual 68, 3) := by decide +kernel
theorem d_Tg_useOf_38 : decode b_Tg_useOf 38 = .ok (.iadd, 1) := by decide +kernel
theorem d_Tg_useOf_39 : decode b_Tg_useOf 39 = .ok (.ireturn, 1) := by decide +kernel
theorem d_Tg_useOf_40 : decode b_Tg_useOf 40 = .ok (.iconst 1, 1) := by decide +kernel
theorem d_Tg_useOf_41 : decode b_Tg_useOf 41 = .ok (.aload_n 0, 1) := by decide +kernel
theorem d_Tg_useOf_42 : decode b_Tg_useOf 42 = .ok (.getfield 40, 3) := by decide +kernel
theorem d_Tg_useOf_45 : decode b_Tg_useOf 45 = .ok (.iload_n 1, 1) := by decide +kernel
theorem d_Tg_useOf_46 : decode b_Tg_useOf 46 = .ok (.iaload, 1) := by decide +kernel
theorem d_Tg_useOf_47 : decode b_Tg_useOf 47 = .ok (.iadd, 1) := by decide +kernel
theorem d_Tg_useOf_48 : decode b_Tg_useOf 48 = .ok (.ireturn, 1) := by decide +kernel
theorem d_Tg_useOf_49 : decode b_Tg_useOf 49 = .ok (.iconst 2, 1) := by decide +kernel
theorem d_Tg_useOf_50 : decode b_Tg_useOf 50 = .ok (.ireturn, 1) := by decide +kernel
theorem d_Tg_quotasIn_0 : decode b_Tg_quotasIn 0 = .ok (.iconst 0, 1) := by decide +kernel
theorem d_Tg_quotasIn_1 : decode b_Tg_quotasIn 1 = .ok (.istore_n 2, 1) := by decide +kernel
theorem d_Tg_quotasIn_2 : decode b_Tg_quotasIn 2 = .ok (.iconst 1, 1) := by decide +kernel
theorem d_Tg_quotasIn_3 : decode b_Tg_quotasIn 3 = .ok (.istore_n 3, 1) := by decide +kernel
theorem d_Tg_quotasIn_4 : decode b_Tg_quotasIn 4 = .ok (.iload_n 3, 1) := by decide +kernel
theorem d_Tg_quotasIn_5 : decode b_Tg_quotasIn 5 = .ok (.aload_n 0, 1) := by decide +kernel
theorem d_Tg_quotasIn_6 : decode b_Tg_quotasIn 6 = .ok (.getfield 46, 3) := by decide +kernel
theorem d_Tg_quotasIn_9 : decode b_Tg_quotasIn 9 = .ok (.if_icmp .gt 27, 3) := by decide +kernel
theorem d_Tg_quotasIn_12 : decode b_Tg_quotasIn 12 = .ok (.aload_n 0, 1) := by decide +kernel
theorem d_Tg_quotasIn_13 : decode b_Tg_quotasIn 13 = .ok (.iload_n 3, 1) := by decide +kernel
theorem d_Tg_quotasIn_14 : decode b_Tg_quotasIn 14 = .ok (.iload_n 1, 1) := by decide +kernel
theorem d_Tg_quotasIn_15 : decode b_Tg_quotasIn 15 = .ok (.invokevirtual 64, 3) := by decide +kernel
theorem d_Tg_quotasIn_18 : decode b_Tg_quotasIn 18 = .ok (.ifCond .eq 12, 3) := by decide +kernel
theorem d_Tg_quotasIn_21 : decode b_Tg_quotasIn 21 = .ok (.iload_n 2, 1) := by decide +kernel
theorem d_Tg_quotasIn_22 : decode b_Tg_quotasIn 22 = .ok (.aload_n 0, 1) := by decide +kernel
theorem d_Tg_quotasIn_23 : decode b_Tg_quotasIn 23 = .ok (.getfield 22, 3) := by decide +kernel
theorem d_Tg_quotasIn_26 : decode b_Tg_quotasIn 26 = .ok (.iload_n 3, 1) := by decide +kernel
theorem d_Tg_quotasIn_27 : decode b_Tg_quotasIn 27 = .ok (.iaload, 1) := by decide +kernel
theorem d_Tg_quotasIn_28 : decode b_Tg_quotasIn 28 = .ok (.iadd, 1) := by decide +kernel
theorem d_Tg_quotasIn_29 : decode b_Tg_quotasIn 29 = .ok (.istore_n 2, 1) := by decide +kernel
theorem d_Tg_quotasIn_30 : decode b_Tg_quotasIn 30 = .ok (.iinc 3 1, 3) := by decide +kernel
theorem d_Tg_quotasIn_33 : decode b_Tg_quotasIn 33 = .ok (.goto (-29), 3) := by decide +kernel
theorem d_Tg_quotasIn_36 : decode b_Tg_quotasIn 36 = .ok (.iload_n 2, 1) := by decide +kernel
theorem d_Tg_quotasIn_37 : decode b_Tg_quotasIn 37 = .ok (.ireturn, 1) := by decide +kernel
theorem d_Tg_removeTree_0 : decode b_Tg_removeTree 0 = .ok (.aload_n 0, 1) := by decide +kernel
theorem d_Tg_removeTree_1 : decode b_Tg_removeTree 1 = .ok (.getfield 9, 3) := by decide +kernel
theorem d_Tg_removeTree_4 : decode b_Tg_removeTree 4 = .ok (.iload_n 1, 1) := by decide +kernel
theorem d_Tg_removeTree_5 : decode b_Tg_removeTree 5 = .ok (.iconst 0, 1) := by decide +kernel
theorem d_Tg_removeTree_6 : decode b_Tg_removeTree 6 = .ok (.bastore, 1) := by decide +kernel
theorem d_Tg_removeTree_7 : decode b_Tg_removeTree 7 = .ok (.iconst 1, 1) := by decide +kernel
theorem d_Tg_removeTree_8 : decode b_Tg_removeTree 8 = .ok (.istore_n 2, 1) := by decide +kernel
theorem d_Tg_removeTree_9 : decode b_Tg_removeTree 9 = .ok (.iload_n 1, 1) := by decide +kernel
theorem d_Tg_removeTree_10 : decode b_Tg_removeTree 10 = .ok (.iconst 1, 1) := by decide +kernel
theorem d_Tg_removeTree_11 : decode b_Tg_removeTree 11 = .ok (.iadd, 1) := by decide +kernel
theorem d_Tg_removeTree_12 : decode b_Tg_removeTree 12 = .ok (.istore_n 3, 1) := by decide +kernel
theorem d_Tg_removeTree_13 : decode b_Tg_removeTree 13 = .ok (.iload_n 3, 1) := by decide +kernel
theorem d_Tg_removeTree_14 : decode b_Tg_removeTree 14 = .ok (.aload_n 0, 1) := by decide +kernel
theorem d_Tg_removeTree_15 : decode b_Tg_removeTree 15 = .ok (.getfield 46, 3) := by decide +kernel
theorem d_Tg_removeTree_18 : decode b_Tg_removeTree 18 = .ok (.if_icmp .gt 42, 3) := by decide +kernel
theorem d_Tg_removeTree_21 : decode b_Tg_removeTree 21 = .ok (.aload_n 0, 1) := by decide +kernel
theorem d_Tg_removeTree_22 : decode b_Tg_removeTree 22 = .ok (.getfield 9, 3) := by decide +kernel
theorem d_Tg_removeTree_25 : decode b_Tg_removeTree 25 = .ok (.iload_n 3, 1) := by decide +kernel
theorem d_Tg_removeTree_26 : decode b_Tg_removeTree 26 = .ok (.baload, 1) := by decide +kernel
theorem d_Tg_removeTree_27 : decode b_Tg_removeTree 27 = .ok (.ifCond .eq 27, 3) := by decide +kernel
theorem d_Tg_removeTree_30 : decode b_Tg_removeTree 30 = .ok (.aload_n 0, 1) := by decide +kernel
theorem d_Tg_removeTree_31 : decode b_Tg_removeTree 31 = .ok (.getfield 9, 3) := by decide +kernel
theorem d_Tg_removeTree_34 : decode b_Tg_removeTree 34 = .ok (.aload_n 0, 1) := by decide +kernel
theorem d_Tg_removeTree_35 : decode b_Tg_removeTree 35 = .ok (.getfield 25, 3) := by decide +kernel
theorem d_Tg_removeTree_38 : decode b_Tg_removeTree 38 = .ok (.iload_n 3, 1) := by decide +kernel
theorem d_Tg_removeTree_39 : decode b_Tg_removeTree 39 = .ok (.iaload, 1) := by decide +kernel
theorem d_Tg_removeTree_40 : decode b_Tg_removeTree 40 = .ok (.baload, 1) := by decide +kernel
theorem d_Tg_removeTree_41 : decode b_Tg_removeTree 41 = .ok (.ifCond .ne 13, 3) := by decide +kernel
theorem d_Tg_removeTree_44 : decode b_Tg_removeTree 44 = .ok (.aload_n 0, 1) := by decide +kernel
theorem d_Tg_removeTree_45 : decode b_Tg_removeTree 45 = .ok (.getfield 9, 3) := by decide +kernel
theorem d_Tg_removeTree_48 : decode b_Tg_removeTree 48 = .ok (.iload_n 3, 1) := by decide +kernel
theorem d_Tg_removeTree_49 : decode b_Tg_removeTree 49 = .ok (.iconst 0, 1) := by decide +kernel
theorem d_Tg_removeTree_50 : decode b_Tg_removeTree 50 = .ok (.bastore, 1) := by decide +kernel
theorem d_Tg_removeTree_51 : decode b_Tg_removeTree 51 = .ok (.iinc 2 1, 3) := by decide +kernel
theorem d_Tg_removeTree_54 : decode b_Tg_removeTree 54 = .ok (.iinc 3 1, 3) := by decide +kernel
theorem d_Tg_removeTree_57 : decode b_Tg_removeTree 57 = .ok (.goto (-44), 3) := by decide +kernel
theorem d_Tg_removeTree_60 : decode b_Tg_removeTree 60 = .ok (.iload_n 2, 1) := by decide +kernel
theorem d_Tg_removeTree_61 : decode b_Tg_removeTree 61 = .ok (.ireturn, 1) := by decide +kernel
theorem d_Tg_kindOf_0 : decode b_Tg_kindOf 0 = .ok (.aload_n 0, 1) := by decide +kernel
theorem d_Tg_kindOf_1 : decode b_Tg_kindOf 1 = .ok (.getfield 15, 3) := by decide +kernel
theorem d_Tg_kindOf_4 : decode b_Tg_kindOf 4 = .ok (.iload_n 1, 1) := by decide +kernel
theorem d_Tg_kindOf_5 : decode b_Tg_kindOf 5 = .ok (.iaload, 1) := by decide +kernel
theorem d_Tg_kindOf_6 : decode b_Tg_kindOf 6 = .ok (.ireturn, 1) := by decide +kernel
theorem d_Tg_labelOf_0 : decode b_Tg_labelOf 0 = .ok (.aload_n 0, 1) := by decide +kernel
theorem d_Tg_labelOf_1 : decode b_Tg_labelOf 1 = .ok (.getfield 19, 3) := by decide +kernel
theorem d_Tg_labelOf_4 : decode b_Tg_labelOf 4 = .ok (.iload_n 1, 1) := by decide +kernel
theorem d_Tg_labelOf_5 : decode b_Tg_labelOf 5 = .ok (.iaload, 1) := by decide +kernel
theorem d_Tg_labelOf_6 : decode b_Tg_labelOf 6 = .ok (.ireturn, 1) := by decide +kernel
theorem d_Tg_setLabel_0 : decode b_Tg_setLabel 0 = .ok (.aload_n 0, 1) := by decide +kernel
theorem d_Tg_setLabel_1 : decode b_Tg_setLabel 1 = .ok (.getfield 19, 3) := by decide +kernel
theorem d_Tg_setLabel_4 : decode b_Tg_setLabel 4 = .ok (.iload_n 1, 1) := by decide +kernel
theorem d_Tg_setLabel_5 : decode b_Tg_setLabel 5 = .ok (.iload_n 2, 1) := by decide +kernel
theorem d_Tg_setLabel_6 : decode b_Tg_setLabel 6 = .ok (.iastore, 1) := by decide +kernel
theorem d_Tg_setLabel_7 : decode b_Tg_setLabel 7 = .ok (.return_, 1) := by decide +kernel
theorem d_Tg_quotaOf_0 : decode b_Tg_quotaOf 0 = .ok (.aload_n 0, 1) := by decide +kernel
theorem d_Tg_quotaOf_1 : decode b_Tg_quotaOf 1 = .ok (.getfield 22, 3) := by decide +kernel
theorem d_Tg_quotaOf_4 : decode b_Tg_quotaOf 4 = .ok (.iload_n 1, 1) := by decide +kernel
theorem d_Tg_quotaOf_5 : decode b_Tg_quotaOf 5 = .ok (.iaload, 1) := by decide +kernel
theorem d_Tg_quotaOf_6 : decode b_Tg_quotaOf 6 = .ok (.ireturn, 1) := by decide +kernel
theorem d_Tg_setQuota_0 : decode b_Tg_setQuota 0 = .ok (.aload_n 0, 1) := by decide +kernel
theorem d_Tg_setQuota_1 : decode b_Tg_setQuota 1 = .ok (.getfield 22, 3) := by decide +kernel
theorem d_Tg_setQuota_4 : decode b_Tg_setQuota 4 = .ok (.iload_n 1, 1) := by decide +kernel
theorem d_Tg_setQuota_5 : decode b_Tg_setQuota 5 = .ok (.iload_n 2, 1) := by decide +kernel
theorem d_Tg_setQuota_6 : decode b_Tg_setQuota 6 = .ok (.iastore, 1) := by decide +kernel
theorem d_Tg_setQuota_7 : decode b_Tg_setQuota 7 = .ok (.return_, 1) := by decide +kernel
theorem d_Tg_placeOf_0 : decode b_Tg_placeOf 0 = .ok (.aload_n 0, 1) := by decide +kernel
theorem d_Tg_placeOf_1 : decode b_Tg_placeOf 1 = .ok (.getfield 25, 3) := by decide +kernel
theorem d_Tg_placeOf_4 : decode b_Tg_placeOf 4 = .ok (.iload_n 1, 1) := by decide +kernel
theorem d_Tg_placeOf_5 : decode b_Tg_placeOf 5 = .ok (.iaload, 1) := by decide +kernel
theorem d_Tg_placeOf_6 : decode b_Tg_placeOf 6 = .ok (.ireturn, 1) := by decide +kernel
theorem d_Tg_depthOf_0 : decode b_Tg_depthOf 0 = .ok (.aload_n 0, 1) := by decide +kernel
theorem d_Tg_depthOf_1 : decode b_Tg_depthOf 1 = .ok (.getfield 28, 3) := by decide +kernel
theorem d_Tg_depthOf_4 : decode b_Tg_depthOf 4 = .ok (.iload_n 1, 1) := by decide +kernel
theorem d_Tg_depthOf_5 : decode b_Tg_depthOf 5 = .ok (.iaload, 1) := by decide +kernel
theorem d_Tg_depthOf_6 : decode b_Tg_depthOf 6 = .ok (.ireturn, 1) := by decide +kernel
theorem d_Tg_clearanceOf_0 : decode b_Tg_clearanceOf 0 = .ok (.aload_n 0, 1) := by decide +kernel
theorem d_Tg_clearanceOf_1 : decode b_Tg_clearanceOf 1 = .ok (.getfield 31, 3) := by decide +kernel
theorem d_Tg_clearanceOf_4 : decode b_Tg_clearanceOf 4 = .ok (.iload_n 1, 1) := by decide +kernel
theorem d_Tg_clearanceOf_5 : decode b_Tg_clearanceOf 5 = .ok (.iaload, 1) := by decide +kernel
theorem d_Tg_clearanceOf_6 : decode b_Tg_clearanceOf 6 = .ok (.ireturn, 1) := by decide +kernel
theorem d_Tg_setClearance_0 : decode b_Tg_setClearance 0 = .ok (.aload_n 0, 1) := by decide +kernel
theorem d_Tg_setClearance_1 : decode b_Tg_setClearance 1 = .ok (.getfield 31, 3) := by decide +kernel
theorem d_Tg_setClearance_4 : decode b_Tg_setClearance 4 = .ok (.iload_n 1, 1) := by decide +kernel
theorem d_Tg_setClearance_5 : decode b_Tg_setClearance 5 = .ok (.iload_n 2, 1) := by decide +kernel
theorem d_Tg_setClearance_6 : decode b_Tg_setClearance 6 = .ok (.iastore, 1) := by decide +kernel
theorem d_Tg_setClearance_7 : decode b_Tg_setClearance 7 = .ok (.return_, 1) := by decide +kernel
theorem d_Tg_guardOf_0 : decode b_Tg_guardOf 0 = .ok (.aload_n 0, 1) := by decide +kernel
theorem d_Tg_guardOf_1 : decode b_Tg_guardOf 1 = .ok (.getfield 34, 3) := by decide +kernel
theorem d_Tg_guardOf_4 : decode b_Tg_guardOf 4 = .ok (.iload_n 1, 1) := by decide +kernel
theorem d_Tg_guardOf_5 : decode b_Tg_guardOf 5 = .ok (.iaload, 1) := by decide +kernel
theorem d_Tg_guardOf_6 : decode b_Tg_guardOf 6 = .ok (.ireturn, 1) := by decide +kernel
theorem d_Tg_entryOf_0 : decode b_Tg_entryOf 0 = .ok (.aload_n 0, 1) := by decide +kernel
theorem d_Tg_entryOf_1 : decode b_Tg_entryOf 1 = .ok (.getfield 37, 3) := by decide +kernel
theorem d_Tg_entryOf_4 : decode b_Tg_entryOf 4 = .ok (.iload_n 1, 1) := by decide +kernel
theorem d_Tg_entryOf_5 : decode b_Tg_entryOf 5 = .ok (.iaload, 1) := by decide +kernel
theorem d_Tg_entryOf_6 : decode b_Tg_entryOf 6 = .ok (.ireturn, 1) := by decide +kernel
theorem d_Tg_setGuardAndEntry_0 : decode b_Tg_setGuardAndEntry 0 = .ok (.aload_n 0, 1) := by decide +kernel
theorem d_Tg_setGuardAndEntry_1 : decode b_Tg_setGuardAndEntry 1 = .ok (.getfield 34, 3) := by decide +kernel
theorem d_Tg_setGuardAndEntry_4 : decode b_Tg_setGuardAndEntry 4 = .ok (.iload_n 1, 1) := by decide +kernel
theorem d_Tg_setGuardAndEntry_5 : decode b_Tg_setGuardAndEntry 5 = .ok (.iload_n 2, 1) := by decide +kernel
theorem d_Tg_setGuardAndEntry_6 : decode b_Tg_setGuardAndEntry 6 = .ok (.iastore, 1) := by decide +kernel
theorem d_Tg_setGuardAndEntry_7 : decode b_Tg_setGuardAndEntry 7 = .ok (.aload_n 0, 1) := by decide +kernel
theorem d_Tg_setGuardAndEntry_8 : decode b_Tg_setGuardAndEntry 8 = .ok (.getfield 37, 3) := by decide +kernel
theorem d_Tg_setGuardAndEntry_11 : decode b_Tg_setGuardAndEntry 11 = .ok (.iload_n 1, 1) := by decide +kernel
theorem d_Tg_setGuardAndEntry_12 : decode b_Tg_setGuardAndEntry 12 = .ok (.iload_n 3, 1) := by decide +kernel
theorem d_Tg_setGuardAndEntry_13 : decode b_Tg_setGuardAndEntry 13 = .ok (.iastore, 1) := by decide +kernel
theorem d_Tg_setGuardAndEntry_14 : decode b_Tg_setGuardAndEntry 14 = .ok (.return_, 1) := by decide +kernel
theorem d_Tg_cellCountOf_0 : decode b_Tg_cellCountOf 0 = .ok (.aload_n 0, 1) := by decide +kernel
theorem d_Tg_cellCountOf_1 : decode b_Tg_cellCountOf 1 = .ok (.getfield 40, 3) := by decide +kernel
theorem d_Tg_cellCountOf_4 : decode b_Tg_cellCountOf 4 = .ok (.iload_n 1, 1) := by decide +kernel
theorem d_Tg_cellCountOf_5 : decode b_Tg_cellCountOf 5 = .ok (.iaload, 1) := by decide +kernel
theorem d_Tg_cellCountOf_6 : decode b_Tg_cellCountOf 6 = .ok (.ireturn, 1) := by decide +kernel
theorem d_Tg_setCellCount_0 : decode b_Tg_setCellCount 0 = .ok (.aload_n 0, 1) := by decide +kernel
theorem d_Tg_setCellCount_1 : decode b_Tg_setCellCount 1 = .ok (.getfield 40, 3) := by decide +kernel
theorem d_Tg_setCellCount_4 : decode b_Tg_setCellCount 4 = .ok (.iload_n 1, 1) := by decide +kernel
theorem d_Tg_setCellCount_5 : decode b_Tg_setCellCount 5 = .ok (.iload_n 2, 1) := by decide +kernel
theorem d_Tg_setCellCount_6 : decode b_Tg_setCellCount 6 = .ok (.iastore, 1) := by decide +kernel
theorem d_Tg_setCellCount_7 : decode b_Tg_setCellCount 7 = .ok (.return_, 1) := by decide +kernel
theorem d_Tg_cellOf_0 : decode b_Tg_cellOf 0 = .ok (.aload_n 0, 1) := by decide +kernel
theorem d_Tg_cellOf_1 : decode b_Tg_cellOf 1 = .ok (.getfield 43, 3) := by decide +kernel
theorem d_Tg_cellOf_4 : decode b_Tg_cellOf 4 = .ok (.iload_n 1, 1) := by decide +kernel
theorem d_Tg_cellOf_5 : decode b_Tg_cellOf 5 = .ok (.bipush 8, 2) := by decide +kernel
theorem d_Tg_cellOf_7 : decode b_Tg_cellOf 7 = .ok (.imul, 1) := by decide +kernel
theorem d_Tg_cellOf_8 : decode b_Tg_cellOf 8 = .ok (.iload_n 2, 1) := by decide +kernel
theorem d_Tg_cellOf_9 : decode b_Tg_cellOf 9 = .ok (.iadd, 1) := by decide +kernel
theorem d_Tg_cellOf_10 : decode b_Tg_cellOf 10 = .ok (.iaload, 1) := by decide +kernel
theorem d_Tg_cellOf_11 : decode b_Tg_cellOf 11 = .ok (.ireturn, 1) := by decide +kernel
theorem d_Tg_setCell_0 : decode b_Tg_setCell 0 = .ok (.aload_n 0, 1) := by decide +kernel
theorem d_Tg_setCell_1 : decode b_Tg_setCell 1 = .ok (.getfield 43, 3) := by decide +kernel
theorem d_Tg_setCell_4 : decode b_Tg_setCell 4 = .ok (.iload_n 1, 1) := by decide +kernel
theorem d_Tg_setCell_5 : decode b_Tg_setCell 5 = .ok (.bipush 8, 2) := by decide +kernel
theorem d_Tg_setCell_7 : decode b_Tg_setCell 7 = .ok (.imul, 1) := by decide +kernel
theorem d_Tg_setCell_8 : decode b_Tg_setCell 8 = .ok (.iload_n 2, 1) := by decide +kernel
theorem d_Tg_setCell_9 : decode b_Tg_setCell 9 = .ok (.iadd, 1) := by decide +kernel
theorem d_Tg_setCell_10 : decode b_Tg_setCell 10 = .ok (.iload_n 3, 1) := by decide +kernel
theorem d_Tg_setCell_11 : decode b_Tg_setCell 11 = .ok (.iastore, 1) := by decide +kernel
theorem d_Tg_setCell_12 : decode b_Tg_setCell 12 = .ok (.return_, 1) := by decide +kernel
