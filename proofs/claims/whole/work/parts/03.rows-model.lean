set_option maxRecDepth 20000 in
theorem ggX13_init_X13_clears : GoodIn wsX13_init wsX13_clears := goodIn_r _ [36, 5, 37, 38, 39, 40, 41, 42, 43, 44, 45, 46, 47, 48, 49, 50, 51, 52, 53, 54, 55, 56, 57, 58, 59, 60, 61, 62, 63] (by decide +kernel) (by decide +kernel)
set_option maxRecDepth 20000 in
theorem gX13_init_X13_clears : GoodIn wsX13_init (wsV RX13 93 RX13 yX13_clears wsX13_clears) := goodIn_app (goodIn_of _ (by decide +kernel)) ggX13_init_X13_clears
theorem dX13_init_0 : decode cX13_init 0 = .ok (.aload_n 0, 1) := by decide +kernel
theorem dX13_init_1 : decode cX13_init 1 = .ok (.invokespecial 1, 3) := by decide +kernel
theorem dX13_init_4 : decode cX13_init 4 = .ok (.aload_n 0, 1) := by decide +kernel
theorem dX13_init_5 : decode cX13_init 5 = .ok (.sipush 240, 3) := by decide +kernel
theorem dX13_init_8 : decode cX13_init 8 = .ok (.newarray .int, 2) := by decide +kernel
theorem dX13_init_10 : decode cX13_init 10 = .ok (.putfield 7, 3) := by decide +kernel
theorem dX13_init_13 : decode cX13_init 13 = .ok (.aload_n 0, 1) := by decide +kernel
theorem dX13_init_14 : decode cX13_init 14 = .ok (.sipush 240, 3) := by decide +kernel
theorem dX13_init_17 : decode cX13_init 17 = .ok (.newarray .int, 2) := by decide +kernel
theorem dX13_init_19 : decode cX13_init 19 = .ok (.putfield 13, 3) := by decide +kernel
theorem dX13_init_22 : decode cX13_init 22 = .ok (.aload_n 0, 1) := by decide +kernel
theorem dX13_init_23 : decode cX13_init 23 = .ok (.sipush 240, 3) := by decide +kernel
theorem dX13_init_26 : decode cX13_init 26 = .ok (.newarray .int, 2) := by decide +kernel
theorem dX13_init_28 : decode cX13_init 28 = .ok (.putfield 16, 3) := by decide +kernel
theorem dX13_init_31 : decode cX13_init 31 = .ok (.aload_n 0, 1) := by decide +kernel
theorem dX13_init_32 : decode cX13_init 32 = .ok (.sipush 240, 3) := by decide +kernel
theorem dX13_init_35 : decode cX13_init 35 = .ok (.newarray .int, 2) := by decide +kernel
theorem dX13_init_37 : decode cX13_init 37 = .ok (.putfield 19, 3) := by decide +kernel
theorem dX13_init_40 : decode cX13_init 40 = .ok (.aload_n 0, 1) := by decide +kernel
theorem dX13_init_41 : decode cX13_init 41 = .ok (.sipush 1920, 3) := by decide +kernel
theorem dX13_init_44 : decode cX13_init 44 = .ok (.newarray .int, 2) := by decide +kernel
theorem dX13_init_46 : decode cX13_init 46 = .ok (.putfield 22, 3) := by decide +kernel
theorem dX13_init_49 : decode cX13_init 49 = .ok (.aload_n 0, 1) := by decide +kernel
theorem dX13_init_50 : decode cX13_init 50 = .ok (.iconst 0, 1) := by decide +kernel
theorem dX13_init_51 : decode cX13_init 51 = .ok (.putfield 25, 3) := by decide +kernel
theorem dX13_init_54 : decode cX13_init 54 = .ok (.aload_n 0, 1) := by decide +kernel
theorem dX13_init_55 : decode cX13_init 55 = .ok (.iconst 0, 1) := by decide +kernel
theorem dX13_init_56 : decode cX13_init 56 = .ok (.putfield 29, 3) := by decide +kernel
theorem dX13_init_59 : decode cX13_init 59 = .ok (.aload_n 0, 1) := by decide +kernel
theorem dX13_init_60 : decode cX13_init 60 = .ok (.iconst 0, 1) := by decide +kernel
theorem dX13_init_61 : decode cX13_init 61 = .ok (.putfield 32, 3) := by decide +kernel
theorem dX13_init_64 : decode cX13_init 64 = .ok (.aload_n 0, 1) := by decide +kernel
theorem dX13_init_65 : decode cX13_init 65 = .ok (.iconst 0, 1) := by decide +kernel
theorem dX13_init_66 : decode cX13_init 66 = .ok (.putfield 35, 3) := by decide +kernel
theorem dX13_init_69 : decode cX13_init 69 = .ok (.aload_n 0, 1) := by decide +kernel
theorem dX13_init_70 : decode cX13_init 70 = .ok (.iconst 0, 1) := by decide +kernel
theorem dX13_init_71 : decode cX13_init 71 = .ok (.putfield 38, 3) := by decide +kernel
theorem dX13_init_74 : decode cX13_init 74 = .ok (.aload_n 0, 1) := by decide +kernel
theorem dX13_init_75 : decode cX13_init 75 = .ok (.iconst 0, 1) := by decide +kernel
theorem dX13_init_76 : decode cX13_init 76 = .ok (.putfield 41, 3) := by decide +kernel
theorem dX13_init_79 : decode cX13_init 79 = .ok (.aload_n 0, 1) := by decide +kernel
theorem dX13_init_80 : decode cX13_init 80 = .ok (.iconst 0, 1) := by decide +kernel
theorem dX13_init_81 : decode cX13_init 81 = .ok (.putfield 44, 3) := by decide +kernel
theorem dX13_init_84 : decode cX13_init 84 = .ok (.aload_n 0, 1) := by decide +kernel
theorem dX13_init_85 : decode cX13_init 85 = .ok (.iconst (-1), 1) := by decide +kernel
theorem dX13_init_86 : decode cX13_init 86 = .ok (.putfield 47, 3) := by decide +kernel
theorem dX13_init_89 : decode cX13_init 89 = .ok (.aload_n 0, 1) := by decide +kernel
theorem dX13_init_90 : decode cX13_init 90 = .ok (.iconst 0, 1) := by decide +kernel
theorem dX13_init_91 : decode cX13_init 91 = .ok (.putfield 50, 3) := by decide +kernel
theorem dX13_init_94 : decode cX13_init 94 = .ok (.aload_n 0, 1) := by decide +kernel
theorem dX13_init_95 : decode cX13_init 95 = .ok (.bipush 12, 2) := by decide +kernel
theorem dX13_init_97 : decode cX13_init 97 = .ok (.newarray .int, 2) := by decide +kernel
theorem dX13_init_99 : decode cX13_init 99 = .ok (.putfield 54, 3) := by decide +kernel
theorem dX13_init_102 : decode cX13_init 102 = .ok (.aload_n 0, 1) := by decide +kernel
theorem dX13_init_103 : decode cX13_init 103 = .ok (.bipush 12, 2) := by decide +kernel
theorem dX13_init_105 : decode cX13_init 105 = .ok (.newarray .int, 2) := by decide +kernel
theorem dX13_init_107 : decode cX13_init 107 = .ok (.putfield 57, 3) := by decide +kernel
theorem dX13_init_110 : decode cX13_init 110 = .ok (.aload_n 0, 1) := by decide +kernel
theorem dX13_init_111 : decode cX13_init 111 = .ok (.bipush 80, 2) := by decide +kernel
theorem dX13_init_113 : decode cX13_init 113 = .ok (.newarray .int, 2) := by decide +kernel
theorem dX13_init_115 : decode cX13_init 115 = .ok (.putfield 60, 3) := by decide +kernel
theorem dX13_init_118 : decode cX13_init 118 = .ok (.aload_n 0, 1) := by decide +kernel
theorem dX13_init_119 : decode cX13_init 119 = .ok (.iconst 0, 1) := by decide +kernel
theorem dX13_init_120 : decode cX13_init 120 = .ok (.putfield 63, 3) := by decide +kernel
theorem dX13_init_123 : decode cX13_init 123 = .ok (.aload_n 0, 1) := by decide +kernel
theorem dX13_init_124 : decode cX13_init 124 = .ok (.bipush 60, 2) := by decide +kernel
theorem dX13_init_126 : decode cX13_init 126 = .ok (.newarray .int, 2) := by decide +kernel
theorem dX13_init_128 : decode cX13_init 128 = .ok (.putfield 66, 3) := by decide +kernel
theorem dX13_init_131 : decode cX13_init 131 = .ok (.aload_n 0, 1) := by decide +kernel
theorem dX13_init_132 : decode cX13_init 132 = .ok (.bipush 32, 2) := by decide +kernel
theorem dX13_init_134 : decode cX13_init 134 = .ok (.newarray .int, 2) := by decide +kernel
theorem dX13_init_136 : decode cX13_init 136 = .ok (.putfield 69, 3) := by decide +kernel
theorem dX13_init_139 : decode cX13_init 139 = .ok (.aload_n 0, 1) := by decide +kernel
theorem dX13_init_140 : decode cX13_init 140 = .ok (.bipush 96, 2) := by decide +kernel
theorem dX13_init_142 : decode cX13_init 142 = .ok (.newarray .int, 2) := by decide +kernel
theorem dX13_init_144 : decode cX13_init 144 = .ok (.putfield 72, 3) := by decide +kernel
theorem dX13_init_147 : decode cX13_init 147 = .ok (.aload_n 0, 1) := by decide +kernel
theorem dX13_init_148 : decode cX13_init 148 = .ok (.iconst 0, 1) := by decide +kernel
theorem dX13_init_149 : decode cX13_init 149 = .ok (.putfield 75, 3) := by decide +kernel
theorem dX13_init_152 : decode cX13_init 152 = .ok (.aload_n 0, 1) := by decide +kernel
theorem dX13_init_153 : decode cX13_init 153 = .ok (.iconst 0, 1) := by decide +kernel
theorem dX13_init_154 : decode cX13_init 154 = .ok (.putfield 78, 3) := by decide +kernel
theorem dX13_init_157 : decode cX13_init 157 = .ok (.aload_n 0, 1) := by decide +kernel
theorem dX13_init_158 : decode cX13_init 158 = .ok (.iconst 0, 1) := by decide +kernel
theorem dX13_init_159 : decode cX13_init 159 = .ok (.putfield 81, 3) := by decide +kernel
theorem dX13_init_162 : decode cX13_init 162 = .ok (.aload_n 0, 1) := by decide +kernel
theorem dX13_init_163 : decode cX13_init 163 = .ok (.iconst 0, 1) := by decide +kernel
theorem dX13_init_164 : decode cX13_init 164 = .ok (.putfield 84, 3) := by decide +kernel
theorem dX13_init_167 : decode cX13_init 167 = .ok (.aload_n 0, 1) := by decide +kernel
theorem dX13_init_168 : decode cX13_init 168 = .ok (.iconst 0, 1) := by decide +kernel
theorem dX13_init_169 : decode cX13_init 169 = .ok (.putfield 87, 3) := by decide +kernel
theorem dX13_init_172 : decode cX13_init 172 = .ok (.aload_n 0, 1) := by decide +kernel
theorem dX13_init_173 : decode cX13_init 173 = .ok (.iconst 0, 1) := by decide +kernel
theorem dX13_init_174 : decode cX13_init 174 = .ok (.putfield 90, 3) := by decide +kernel
theorem dX13_init_177 : decode cX13_init 177 = .ok (.aload_n 0, 1) := by decide +kernel
theorem dX13_init_178 : decode cX13_init 178 = .ok (.invokevirtual 93, 3) := by decide +kernel
theorem dX13_init_181 : decode cX13_init 181 = .ok (.return_, 1) := by decide +kernel
theorem dX13_in_0 : decode cX13_in 0 = .ok (.iload_n 0, 1) := by decide +kernel
theorem dX13_in_1 : decode cX13_in 1 = .ok (.iload_n 1, 1) := by decide +kernel
theorem dX13_in_2 : decode cX13_in 2 = .ok (.if_icmp .lt 12, 3) := by decide +kernel
theorem dX13_in_5 : decode cX13_in 5 = .ok (.iload_n 0, 1) := by decide +kernel
theorem dX13_in_6 : decode cX13_in 6 = .ok (.iload_n 2, 1) := by decide +kernel
theorem dX13_in_7 : decode cX13_in 7 = .ok (.if_icmp .gt 7, 3) := by decide +kernel
theorem dX13_in_10 : decode cX13_in 10 = .ok (.iconst 1, 1) := by decide +kernel
theorem dX13_in_11 : decode cX13_in 11 = .ok (.goto 4, 3) := by decide +kernel
theorem dX13_in_14 : decode cX13_in 14 = .ok (.iconst 0, 1) := by decide +kernel
theorem dX13_in_15 : decode cX13_in 15 = .ok (.ireturn, 1) := by decide +kernel
theorem dX13_copies_0 : decode cX13_copies 0 = .ok (.iconst 0, 1) := by decide +kernel
theorem dX13_copies_1 : decode cX13_copies 1 = .ok (.istore 4, 2) := by decide +kernel
theorem dX13_copies_3 : decode cX13_copies 3 = .ok (.iload 4, 2) := by decide +kernel
theorem dX13_copies_5 : decode cX13_copies 5 = .ok (.sipush 240, 3) := by decide +kernel
theorem dX13_copies_8 : decode cX13_copies 8 = .ok (.if_icmp .ge 21, 3) := by decide +kernel
theorem dX13_copies_11 : decode cX13_copies 11 = .ok (.aload_n 2, 1) := by decide +kernel
theorem dX13_copies_12 : decode cX13_copies 12 = .ok (.iload_n 3, 1) := by decide +kernel
theorem dX13_copies_13 : decode cX13_copies 13 = .ok (.iload 4, 2) := by decide +kernel
theorem dX13_copies_15 : decode cX13_copies 15 = .ok (.iadd, 1) := by decide +kernel
theorem dX13_copies_16 : decode cX13_copies 16 = .ok (.aload_n 0, 1) := by decide +kernel
theorem dX13_copies_17 : decode cX13_copies 17 = .ok (.iload_n 1, 1) := by decide +kernel
theorem dX13_copies_18 : decode cX13_copies 18 = .ok (.iload 4, 2) := by decide +kernel
theorem dX13_copies_20 : decode cX13_copies 20 = .ok (.iadd, 1) := by decide +kernel
theorem dX13_copies_21 : decode cX13_copies 21 = .ok (.iaload, 1) := by decide +kernel
theorem dX13_copies_22 : decode cX13_copies 22 = .ok (.iastore, 1) := by decide +kernel
theorem dX13_copies_23 : decode cX13_copies 23 = .ok (.iinc 4 1, 3) := by decide +kernel
theorem dX13_copies_26 : decode cX13_copies 26 = .ok (.goto (-23), 3) := by decide +kernel
theorem dX13_copies_29 : decode cX13_copies 29 = .ok (.return_, 1) := by decide +kernel
theorem dX13_isBad_0 : decode cX13_isBad 0 = .ok (.aload_n 0, 1) := by decide +kernel
theorem dX13_isBad_1 : decode cX13_isBad 1 = .ok (.iload_n 1, 1) := by decide +kernel
theorem dX13_isBad_2 : decode cX13_isBad 2 = .ok (.putfield 29, 3) := by decide +kernel
theorem dX13_isBad_5 : decode cX13_isBad 5 = .ok (.aload_n 0, 1) := by decide +kernel
theorem dX13_isBad_6 : decode cX13_isBad 6 = .ok (.iload_n 2, 1) := by decide +kernel
theorem dX13_isBad_7 : decode cX13_isBad 7 = .ok (.putfield 32, 3) := by decide +kernel
theorem dX13_isBad_10 : decode cX13_isBad 10 = .ok (.iconst 1, 1) := by decide +kernel
theorem dX13_isBad_11 : decode cX13_isBad 11 = .ok (.ireturn, 1) := by decide +kernel
theorem dX13_refused_0 : decode cX13_refused 0 = .ok (.aload_n 0, 1) := by decide +kernel
theorem dX13_refused_1 : decode cX13_refused 1 = .ok (.aload_n 0, 1) := by decide +kernel
theorem dX13_refused_2 : decode cX13_refused 2 = .ok (.getfield 29, 3) := by decide +kernel
theorem dX13_refused_5 : decode cX13_refused 5 = .ok (.putfield 35, 3) := by decide +kernel
theorem dX13_refused_8 : decode cX13_refused 8 = .ok (.aload_n 0, 1) := by decide +kernel
theorem dX13_refused_9 : decode cX13_refused 9 = .ok (.aload_n 0, 1) := by decide +kernel
theorem dX13_refused_10 : decode cX13_refused 10 = .ok (.getfield 32, 3) := by decide +kernel
theorem dX13_refused_13 : decode cX13_refused 13 = .ok (.putfield 38, 3) := by decide +kernel
theorem dX13_refused_16 : decode cX13_refused 16 = .ok (.aload_n 0, 1) := by decide +kernel
theorem dX13_refused_17 : decode cX13_refused 17 = .ok (.iconst 0, 1) := by decide +kernel
theorem dX13_refused_18 : decode cX13_refused 18 = .ok (.putfield 41, 3) := by decide +kernel
theorem dX13_refused_21 : decode cX13_refused 21 = .ok (.bipush (-3), 2) := by decide +kernel
theorem dX13_refused_23 : decode cX13_refused 23 = .ok (.ireturn, 1) := by decide +kernel
set_option maxRecDepth 20000 in
theorem ggX13_begins_X13_copies : GoodIn wsX13_begins wsX13_copies := goodIn_r _ [6] (by decide +kernel) (by decide +kernel)
set_option maxRecDepth 20000 in
theorem gX13_begins_X13_copies : GoodIn wsX13_begins (va_wsS RX13 96 yX13_copies wsX13_copies) := goodIn_app (goodIn_of _ (by decide +kernel)) ggX13_begins_X13_copies
theorem dX13_begins_0 : decode cX13_begins 0 = .ok (.aload_n 0, 1) := by decide +kernel
theorem dX13_begins_1 : decode cX13_begins 1 = .ok (.getfield 7, 3) := by decide +kernel
theorem dX13_begins_4 : decode cX13_begins 4 = .ok (.iconst 0, 1) := by decide +kernel
theorem dX13_begins_5 : decode cX13_begins 5 = .ok (.aload_n 0, 1) := by decide +kernel
theorem dX13_begins_6 : decode cX13_begins 6 = .ok (.getfield 13, 3) := by decide +kernel
theorem dX13_begins_9 : decode cX13_begins 9 = .ok (.iconst 0, 1) := by decide +kernel
theorem dX13_begins_10 : decode cX13_begins 10 = .ok (.invokestatic 96, 3) := by decide +kernel
theorem dX13_begins_13 : decode cX13_begins 13 = .ok (.return_, 1) := by decide +kernel
set_option maxRecDepth 20000 in
theorem ggX13_keeps_X13_copies : GoodIn wsX13_keeps wsX13_copies := goodIn_r _ [7] (by decide +kernel) (by decide +kernel)
set_option maxRecDepth 20000 in
theorem gX13_keeps_X13_copies : GoodIn wsX13_keeps (va_wsS RX13 96 yX13_copies wsX13_copies) := goodIn_app (goodIn_of _ (by decide +kernel)) ggX13_keeps_X13_copies
theorem dX13_keeps_0 : decode cX13_keeps 0 = .ok (.aload_n 0, 1) := by decide +kernel
theorem dX13_keeps_1 : decode cX13_keeps 1 = .ok (.getfield 25, 3) := by decide +kernel
theorem dX13_keeps_4 : decode cX13_keeps 4 = .ok (.bipush 8, 2) := by decide +kernel
theorem dX13_keeps_6 : decode cX13_keeps 6 = .ok (.if_icmp .ne 50, 3) := by decide +kernel
theorem dX13_keeps_9 : decode cX13_keeps 9 = .ok (.iconst 1, 1) := by decide +kernel
theorem dX13_keeps_10 : decode cX13_keeps 10 = .ok (.istore_n 2, 1) := by decide +kernel
theorem dX13_keeps_11 : decode cX13_keeps 11 = .ok (.iload_n 2, 1) := by decide +kernel
theorem dX13_keeps_12 : decode cX13_keeps 12 = .ok (.bipush 8, 2) := by decide +kernel
theorem dX13_keeps_14 : decode cX13_keeps 14 = .ok (.if_icmp .ge 32, 3) := by decide +kernel
theorem dX13_keeps_17 : decode cX13_keeps 17 = .ok (.aload_n 0, 1) := by decide +kernel
theorem dX13_keeps_18 : decode cX13_keeps 18 = .ok (.getfield 22, 3) := by decide +kernel
theorem dX13_keeps_21 : decode cX13_keeps 21 = .ok (.sipush 240, 3) := by decide +kernel
theorem dX13_keeps_24 : decode cX13_keeps 24 = .ok (.iload_n 2, 1) := by decide +kernel
theorem dX13_keeps_25 : decode cX13_keeps 25 = .ok (.imul, 1) := by decide +kernel
theorem dX13_keeps_26 : decode cX13_keeps 26 = .ok (.aload_n 0, 1) := by decide +kernel
theorem dX13_keeps_27 : decode cX13_keeps 27 = .ok (.getfield 22, 3) := by decide +kernel
theorem dX13_keeps_30 : decode cX13_keeps 30 = .ok (.sipush 240, 3) := by decide +kernel
theorem dX13_keeps_33 : decode cX13_keeps 33 = .ok (.iload_n 2, 1) := by decide +kernel
theorem dX13_keeps_34 : decode cX13_keeps 34 = .ok (.iconst 1, 1) := by decide +kernel
theorem dX13_keeps_35 : decode cX13_keeps 35 = .ok (.isub, 1) := by decide +kernel
theorem dX13_keeps_36 : decode cX13_keeps 36 = .ok (.imul, 1) := by decide +kernel
theorem dX13_keeps_37 : decode cX13_keeps 37 = .ok (.invokestatic 96, 3) := by decide +kernel
theorem dX13_keeps_40 : decode cX13_keeps 40 = .ok (.iinc 2 1, 3) := by decide +kernel
theorem dX13_keeps_43 : decode cX13_keeps 43 = .ok (.goto (-32), 3) := by decide +kernel
theorem dX13_keeps_46 : decode cX13_keeps 46 = .ok (.aload_n 0, 1) := by decide +kernel
theorem dX13_keeps_47 : decode cX13_keeps 47 = .ok (.dup, 1) := by decide +kernel
theorem dX13_keeps_48 : decode cX13_keeps 48 = .ok (.getfield 25, 3) := by decide +kernel
theorem dX13_keeps_51 : decode cX13_keeps 51 = .ok (.iconst 1, 1) := by decide +kernel
theorem dX13_keeps_52 : decode cX13_keeps 52 = .ok (.isub, 1) := by decide +kernel
theorem dX13_keeps_53 : decode cX13_keeps 53 = .ok (.putfield 25, 3) := by decide +kernel
theorem dX13_keeps_56 : decode cX13_keeps 56 = .ok (.aload_n 0, 1) := by decide +kernel
theorem dX13_keeps_57 : decode cX13_keeps 57 = .ok (.getfield 13, 3) := by decide +kernel
theorem dX13_keeps_60 : decode cX13_keeps 60 = .ok (.iconst 0, 1) := by decide +kernel
theorem dX13_keeps_61 : decode cX13_keeps 61 = .ok (.aload_n 0, 1) := by decide +kernel
theorem dX13_keeps_62 : decode cX13_keeps 62 = .ok (.getfield 22, 3) := by decide +kernel
theorem dX13_keeps_65 : decode cX13_keeps 65 = .ok (.sipush 240, 3) := by decide +kernel
theorem dX13_keeps_68 : decode cX13_keeps 68 = .ok (.aload_n 0, 1) := by decide +kernel
theorem dX13_keeps_69 : decode cX13_keeps 69 = .ok (.getfield 25, 3) := by decide +kernel
theorem dX13_keeps_72 : decode cX13_keeps 72 = .ok (.imul, 1) := by decide +kernel
theorem dX13_keeps_73 : decode cX13_keeps 73 = .ok (.invokestatic 96, 3) := by decide +kernel
theorem dX13_keeps_76 : decode cX13_keeps 76 = .ok (.aload_n 0, 1) := by decide +kernel
theorem dX13_keeps_77 : decode cX13_keeps 77 = .ok (.dup, 1) := by decide +kernel
theorem dX13_keeps_78 : decode cX13_keeps 78 = .ok (.getfield 25, 3) := by decide +kernel
theorem dX13_keeps_81 : decode cX13_keeps 81 = .ok (.iconst 1, 1) := by decide +kernel
theorem dX13_keeps_82 : decode cX13_keeps 82 = .ok (.iadd, 1) := by decide +kernel
theorem dX13_keeps_83 : decode cX13_keeps 83 = .ok (.putfield 25, 3) := by decide +kernel
theorem dX13_keeps_86 : decode cX13_keeps 86 = .ok (.iload_n 1, 1) := by decide +kernel
theorem dX13_keeps_87 : decode cX13_keeps 87 = .ok (.ireturn, 1) := by decide +kernel
set_option maxRecDepth 20000 in
theorem ggX13_isBalcony_X13_in : GoodIn wsX13_isBalcony wsX13_in := goodIn_r _ [4] (by decide +kernel) (by decide +kernel)
set_option maxRecDepth 20000 in
theorem gX13_isBalcony_X13_in : GoodIn wsX13_isBalcony (va_wsS RX13 100 yX13_in wsX13_in) := goodIn_app (goodIn_of _ (by decide +kernel)) ggX13_isBalcony_X13_in
theorem dX13_isBalcony_0 : decode cX13_isBalcony 0 = .ok (.iload_n 0, 1) := by decide +kernel
theorem dX13_isBalcony_1 : decode cX13_isBalcony 1 = .ok (.iconst 0, 1) := by decide +kernel
theorem dX13_isBalcony_2 : decode cX13_isBalcony 2 = .ok (.bipush 11, 2) := by decide +kernel
theorem dX13_isBalcony_4 : decode cX13_isBalcony 4 = .ok (.invokestatic 100, 3) := by decide +kernel
theorem dX13_isBalcony_7 : decode cX13_isBalcony 7 = .ok (.ireturn, 1) := by decide +kernel
theorem dX13_isAbove_0 : decode cX13_isAbove 0 = .ok (.iload_n 0, 1) := by decide +kernel
theorem dX13_isAbove_1 : decode cX13_isAbove 1 = .ok (.iload_n 1, 1) := by decide +kernel
theorem dX13_isAbove_2 : decode cX13_isAbove 2 = .ok (.if_icmp .le 16, 3) := by decide +kernel
theorem dX13_isAbove_5 : decode cX13_isAbove 5 = .ok (.iload_n 0, 1) := by decide +kernel
theorem dX13_isAbove_6 : decode cX13_isAbove 6 = .ok (.iconst 4, 1) := by decide +kernel
theorem dX13_isAbove_7 : decode cX13_isAbove 7 = .ok (.irem, 1) := by decide +kernel
theorem dX13_isAbove_8 : decode cX13_isAbove 8 = .ok (.iload_n 1, 1) := by decide +kernel
theorem dX13_isAbove_9 : decode cX13_isAbove 9 = .ok (.iconst 4, 1) := by decide +kernel
theorem dX13_isAbove_10 : decode cX13_isAbove 10 = .ok (.irem, 1) := by decide +kernel
theorem dX13_isAbove_11 : decode cX13_isAbove 11 = .ok (.if_icmp .ne 7, 3) := by decide +kernel
theorem dX13_isAbove_14 : decode cX13_isAbove 14 = .ok (.iconst 1, 1) := by decide +kernel
theorem dX13_isAbove_15 : decode cX13_isAbove 15 = .ok (.goto 4, 3) := by decide +kernel
theorem dX13_isAbove_18 : decode cX13_isAbove 18 = .ok (.iconst 0, 1) := by decide +kernel
theorem dX13_isAbove_19 : decode cX13_isAbove 19 = .ok (.ireturn, 1) := by decide +kernel
theorem dX13_isBeside_0 : decode cX13_isBeside 0 = .ok (.iload_n 0, 1) := by decide +kernel
theorem dX13_isBeside_1 : decode cX13_isBeside 1 = .ok (.iload_n 1, 1) := by decide +kernel
theorem dX13_isBeside_2 : decode cX13_isBeside 2 = .ok (.if_icmp .ge 9, 3) := by decide +kernel
theorem dX13_isBeside_5 : decode cX13_isBeside 5 = .ok (.iload_n 1, 1) := by decide +kernel
theorem dX13_isBeside_6 : decode cX13_isBeside 6 = .ok (.iload_n 0, 1) := by decide +kernel
theorem dX13_isBeside_7 : decode cX13_isBeside 7 = .ok (.isub, 1) := by decide +kernel
theorem dX13_isBeside_8 : decode cX13_isBeside 8 = .ok (.goto 6, 3) := by decide +kernel
theorem dX13_isBeside_11 : decode cX13_isBeside 11 = .ok (.iload_n 0, 1) := by decide +kernel
theorem dX13_isBeside_12 : decode cX13_isBeside 12 = .ok (.iload_n 1, 1) := by decide +kernel
theorem dX13_isBeside_13 : decode cX13_isBeside 13 = .ok (.isub, 1) := by decide +kernel
theorem dX13_isBeside_14 : decode cX13_isBeside 14 = .ok (.istore_n 2, 1) := by decide +kernel
theorem dX13_isBeside_15 : decode cX13_isBeside 15 = .ok (.iload_n 2, 1) := by decide +kernel
theorem dX13_isBeside_16 : decode cX13_isBeside 16 = .ok (.iconst 4, 1) := by decide +kernel
theorem dX13_isBeside_17 : decode cX13_isBeside 17 = .ok (.if_icmp .eq 17, 3) := by decide +kernel
theorem dX13_isBeside_20 : decode cX13_isBeside 20 = .ok (.iload_n 2, 1) := by decide +kernel
theorem dX13_isBeside_21 : decode cX13_isBeside 21 = .ok (.iconst 1, 1) := by decide +kernel
theorem dX13_isBeside_22 : decode cX13_isBeside 22 = .ok (.if_icmp .ne 16, 3) := by decide +kernel
theorem dX13_isBeside_25 : decode cX13_isBeside 25 = .ok (.iload_n 0, 1) := by decide +kernel
theorem dX13_isBeside_26 : decode cX13_isBeside 26 = .ok (.iconst 4, 1) := by decide +kernel
theorem dX13_isBeside_27 : decode cX13_isBeside 27 = .ok (.idiv, 1) := by decide +kernel
theorem dX13_isBeside_28 : decode cX13_isBeside 28 = .ok (.iload_n 1, 1) := by decide +kernel
theorem dX13_isBeside_29 : decode cX13_isBeside 29 = .ok (.iconst 4, 1) := by decide +kernel
theorem dX13_isBeside_30 : decode cX13_isBeside 30 = .ok (.idiv, 1) := by decide +kernel
theorem dX13_isBeside_31 : decode cX13_isBeside 31 = .ok (.if_icmp .ne 7, 3) := by decide +kernel
theorem dX13_isBeside_34 : decode cX13_isBeside 34 = .ok (.iconst 1, 1) := by decide +kernel
theorem dX13_isBeside_35 : decode cX13_isBeside 35 = .ok (.goto 4, 3) := by decide +kernel
theorem dX13_isBeside_38 : decode cX13_isBeside 38 = .ok (.iconst 0, 1) := by decide +kernel
theorem dX13_isBeside_39 : decode cX13_isBeside 39 = .ok (.ireturn, 1) := by decide +kernel
theorem dX13_plants_0 : decode cX13_plants 0 = .ok (.aload_n 0, 1) := by decide +kernel
theorem dX13_plants_1 : decode cX13_plants 1 = .ok (.getfield 7, 3) := by decide +kernel
theorem dX13_plants_4 : decode cX13_plants 4 = .ok (.bipush 10, 2) := by decide +kernel
theorem dX13_plants_6 : decode cX13_plants 6 = .ok (.iload_n 1, 1) := by decide +kernel
theorem dX13_plants_7 : decode cX13_plants 7 = .ok (.iadd, 1) := by decide +kernel
theorem dX13_plants_8 : decode cX13_plants 8 = .ok (.iaload, 1) := by decide +kernel
theorem dX13_plants_9 : decode cX13_plants 9 = .ok (.ireturn, 1) := by decide +kernel
set_option maxRecDepth 20000 in
theorem ggX13_allPlants_X13_plants : GoodIn wsX13_allPlants wsX13_plants := goodIn_r _ [5, 6, 7, 8, 9, 10, 11, 12, 13, 14, 15, 16, 17, 18, 19, 20, 21, 22, 23, 24, 25, 26, 27, 28, 29, 30, 31, 32, 33] (by decide +kernel) (by decide +kernel)
set_option maxRecDepth 20000 in
theorem gX13_allPlants_X13_plants : GoodIn wsX13_allPlants (wsV RX13 104 RX13 yX13_plants wsX13_plants) := goodIn_app (goodIn_of _ (by decide +kernel)) ggX13_allPlants_X13_plants
theorem dX13_allPlants_0 : decode cX13_allPlants 0 = .ok (.iconst 0, 1) := by decide +kernel
theorem dX13_allPlants_1 : decode cX13_allPlants 1 = .ok (.istore_n 1, 1) := by decide +kernel
theorem dX13_allPlants_2 : decode cX13_allPlants 2 = .ok (.iconst 0, 1) := by decide +kernel
theorem dX13_allPlants_3 : decode cX13_allPlants 3 = .ok (.istore_n 2, 1) := by decide +kernel
theorem dX13_allPlants_4 : decode cX13_allPlants 4 = .ok (.iload_n 2, 1) := by decide +kernel
theorem dX13_allPlants_5 : decode cX13_allPlants 5 = .ok (.bipush 12, 2) := by decide +kernel
theorem dX13_allPlants_7 : decode cX13_allPlants 7 = .ok (.if_icmp .ge 17, 3) := by decide +kernel
theorem dX13_allPlants_10 : decode cX13_allPlants 10 = .ok (.iload_n 1, 1) := by decide +kernel
theorem dX13_allPlants_11 : decode cX13_allPlants 11 = .ok (.aload_n 0, 1) := by decide +kernel
theorem dX13_allPlants_12 : decode cX13_allPlants 12 = .ok (.iload_n 2, 1) := by decide +kernel
theorem dX13_allPlants_13 : decode cX13_allPlants 13 = .ok (.invokevirtual 104, 3) := by decide +kernel
theorem dX13_allPlants_16 : decode cX13_allPlants 16 = .ok (.iadd, 1) := by decide +kernel
theorem dX13_allPlants_17 : decode cX13_allPlants 17 = .ok (.istore_n 1, 1) := by decide +kernel
theorem dX13_allPlants_18 : decode cX13_allPlants 18 = .ok (.iinc 2 1, 3) := by decide +kernel
theorem dX13_allPlants_21 : decode cX13_allPlants 21 = .ok (.goto (-17), 3) := by decide +kernel
theorem dX13_allPlants_24 : decode cX13_allPlants 24 = .ok (.iload_n 1, 1) := by decide +kernel
theorem dX13_allPlants_25 : decode cX13_allPlants 25 = .ok (.ireturn, 1) := by decide +kernel
theorem dX13_linePart_0 : decode cX13_linePart 0 = .ok (.aload_n 0, 1) := by decide +kernel
theorem dX13_linePart_1 : decode cX13_linePart 1 = .ok (.getfield 7, 3) := by decide +kernel
theorem dX13_linePart_4 : decode cX13_linePart 4 = .ok (.sipush 190, 3) := by decide +kernel
theorem dX13_linePart_7 : decode cX13_linePart 7 = .ok (.iconst 3, 1) := by decide +kernel
theorem dX13_linePart_8 : decode cX13_linePart 8 = .ok (.iload_n 1, 1) := by decide +kernel
theorem dX13_linePart_9 : decode cX13_linePart 9 = .ok (.imul, 1) := by decide +kernel
theorem dX13_linePart_10 : decode cX13_linePart 10 = .ok (.iadd, 1) := by decide +kernel
theorem dX13_linePart_11 : decode cX13_linePart 11 = .ok (.iload_n 2, 1) := by decide +kernel
theorem dX13_linePart_12 : decode cX13_linePart 12 = .ok (.iadd, 1) := by decide +kernel
theorem dX13_linePart_13 : decode cX13_linePart 13 = .ok (.iaload, 1) := by decide +kernel
theorem dX13_linePart_14 : decode cX13_linePart 14 = .ok (.ireturn, 1) := by decide +kernel
set_option maxRecDepth 20000 in
theorem ggX13_lineBetween_X13_linePart : GoodIn wsX13_lineBetween wsX13_linePart := goodIn_r _ [6, 1, 7, 8, 9, 10, 11, 12, 13, 14, 15, 16, 17, 18, 19, 20, 21, 22, 23, 24, 25, 26, 27, 28, 29, 30, 31, 32, 33] (by decide +kernel) (by decide +kernel)
set_option maxRecDepth 20000 in
theorem gX13_lineBetween_X13_linePart : GoodIn wsX13_lineBetween (wsV RX13 108 RX13 yX13_linePart wsX13_linePart) := goodIn_app (goodIn_of _ (by decide +kernel)) ggX13_lineBetween_X13_linePart
theorem dX13_lineBetween_0 : decode cX13_lineBetween 0 = .ok (.iconst 0, 1) := by decide +kernel
theorem dX13_lineBetween_1 : decode cX13_lineBetween 1 = .ok (.istore_n 3, 1) := by decide +kernel
theorem dX13_lineBetween_2 : decode cX13_lineBetween 2 = .ok (.iload_n 3, 1) := by decide +kernel
theorem dX13_lineBetween_3 : decode cX13_lineBetween 3 = .ok (.aload_n 0, 1) := by decide +kernel
theorem dX13_lineBetween_4 : decode cX13_lineBetween 4 = .ok (.getfield 7, 3) := by decide +kernel
theorem dX13_lineBetween_7 : decode cX13_lineBetween 7 = .ok (.iconst 0, 1) := by decide +kernel
theorem dX13_lineBetween_8 : decode cX13_lineBetween 8 = .ok (.iaload, 1) := by decide +kernel
theorem dX13_lineBetween_9 : decode cX13_lineBetween 9 = .ok (.if_icmp .ge 49, 3) := by decide +kernel
theorem dX13_lineBetween_12 : decode cX13_lineBetween 12 = .ok (.aload_n 0, 1) := by decide +kernel
theorem dX13_lineBetween_13 : decode cX13_lineBetween 13 = .ok (.iload_n 3, 1) := by decide +kernel
theorem dX13_lineBetween_14 : decode cX13_lineBetween 14 = .ok (.iconst 0, 1) := by decide +kernel
theorem dX13_lineBetween_15 : decode cX13_lineBetween 15 = .ok (.invokevirtual 108, 3) := by decide +kernel
theorem dX13_lineBetween_18 : decode cX13_lineBetween 18 = .ok (.iload_n 1, 1) := by decide +kernel
theorem dX13_lineBetween_19 : decode cX13_lineBetween 19 = .ok (.iload_n 2, 1) := by decide +kernel
theorem dX13_lineBetween_20 : decode cX13_lineBetween 20 = .ok (.if_icmp .ge 7, 3) := by decide +kernel
theorem dX13_lineBetween_23 : decode cX13_lineBetween 23 = .ok (.iload_n 1, 1) := by decide +kernel
theorem dX13_lineBetween_24 : decode cX13_lineBetween 24 = .ok (.goto 4, 3) := by decide +kernel
theorem dX13_lineBetween_27 : decode cX13_lineBetween 27 = .ok (.iload_n 2, 1) := by decide +kernel
theorem dX13_lineBetween_28 : decode cX13_lineBetween 28 = .ok (.if_icmp .ne 24, 3) := by decide +kernel
theorem dX13_lineBetween_31 : decode cX13_lineBetween 31 = .ok (.aload_n 0, 1) := by decide +kernel
theorem dX13_lineBetween_32 : decode cX13_lineBetween 32 = .ok (.iload_n 3, 1) := by decide +kernel
theorem dX13_lineBetween_33 : decode cX13_lineBetween 33 = .ok (.iconst 1, 1) := by decide +kernel
theorem dX13_lineBetween_34 : decode cX13_lineBetween 34 = .ok (.invokevirtual 108, 3) := by decide +kernel
theorem dX13_lineBetween_37 : decode cX13_lineBetween 37 = .ok (.iload_n 1, 1) := by decide +kernel
theorem dX13_lineBetween_38 : decode cX13_lineBetween 38 = .ok (.iload_n 2, 1) := by decide +kernel
theorem dX13_lineBetween_39 : decode cX13_lineBetween 39 = .ok (.if_icmp .ge 7, 3) := by decide +kernel
theorem dX13_lineBetween_42 : decode cX13_lineBetween 42 = .ok (.iload_n 2, 1) := by decide +kernel
theorem dX13_lineBetween_43 : decode cX13_lineBetween 43 = .ok (.goto 4, 3) := by decide +kernel
theorem dX13_lineBetween_46 : decode cX13_lineBetween 46 = .ok (.iload_n 1, 1) := by decide +kernel
theorem dX13_lineBetween_47 : decode cX13_lineBetween 47 = .ok (.if_icmp .ne 5, 3) := by decide +kernel
theorem dX13_lineBetween_50 : decode cX13_lineBetween 50 = .ok (.iload_n 3, 1) := by decide +kernel
theorem dX13_lineBetween_51 : decode cX13_lineBetween 51 = .ok (.ireturn, 1) := by decide +kernel
theorem dX13_lineBetween_52 : decode cX13_lineBetween 52 = .ok (.iinc 3 1, 3) := by decide +kernel
theorem dX13_lineBetween_55 : decode cX13_lineBetween 55 = .ok (.goto (-53), 3) := by decide +kernel
theorem dX13_lineBetween_58 : decode cX13_lineBetween 58 = .ok (.iconst (-1), 1) := by decide +kernel
theorem dX13_lineBetween_59 : decode cX13_lineBetween 59 = .ok (.ireturn, 1) := by decide +kernel
set_option maxRecDepth 20000 in
theorem ggX13_isTooMany_X13_isAbove : GoodIn wsX13_isTooMany wsX13_isAbove := goodIn_r _ [5] (by decide +kernel) (by decide +kernel)
set_option maxRecDepth 20000 in
theorem gX13_isTooMany_X13_isAbove : GoodIn wsX13_isTooMany (va_wsS RX13 112 yX13_isAbove wsX13_isAbove) := goodIn_app (goodIn_of _ (by decide +kernel)) ggX13_isTooMany_X13_isAbove
set_option maxRecDepth 20000 in
theorem ggX13_isTooMany_X13_plants : GoodIn wsX13_isTooMany wsX13_plants := goodIn_r _ [9, 1, 18, 19, 20, 21, 22, 23, 24, 25, 26, 27, 28, 29, 30, 31, 32, 33, 34, 35, 36, 37, 38, 39, 40, 41, 42, 43, 44] (by decide +kernel) (by decide +kernel)
set_option maxRecDepth 20000 in
theorem gX13_isTooMany_X13_plants : GoodIn wsX13_isTooMany (wsV RX13 104 RX13 yX13_plants wsX13_plants) := goodIn_app (goodIn_of _ (by decide +kernel)) ggX13_isTooMany_X13_plants
set_option maxRecDepth 20000 in
theorem ggX13_isTooMany_X13_lineBetween : GoodIn wsX13_isTooMany wsX13_lineBetween := goodIn_r _ [13, 1, 14, 15, 16, 4, 17, 18, 19, 20, 21, 22, 23, 24, 25, 26, 27, 28, 29, 30, 31, 32, 33, 34, 35, 36, 37, 38, 39, 40, 41, 42, 43, 44] (by decide +kernel) (by decide +kernel)
set_option maxRecDepth 20000 in
theorem gX13_isTooMany_X13_lineBetween : GoodIn wsX13_isTooMany (wsV RX13 116 RX13 yX13_lineBetween wsX13_lineBetween) := goodIn_app (goodIn_of _ (by decide +kernel)) ggX13_isTooMany_X13_lineBetween
theorem dX13_isTooMany_0 : decode cX13_isTooMany 0 = .ok (.iload_n 1, 1) := by decide +kernel
theorem dX13_isTooMany_1 : decode cX13_isTooMany 1 = .ok (.iload_n 2, 1) := by decide +kernel
theorem dX13_isTooMany_2 : decode cX13_isTooMany 2 = .ok (.invokestatic 112, 3) := by decide +kernel
theorem dX13_isTooMany_5 : decode cX13_isTooMany 5 = .ok (.ifCond .eq 33, 3) := by decide +kernel
theorem dX13_isTooMany_8 : decode cX13_isTooMany 8 = .ok (.aload_n 0, 1) := by decide +kernel
theorem dX13_isTooMany_9 : decode cX13_isTooMany 9 = .ok (.iload_n 1, 1) := by decide +kernel
theorem dX13_isTooMany_10 : decode cX13_isTooMany 10 = .ok (.invokevirtual 104, 3) := by decide +kernel
theorem dX13_isTooMany_13 : decode cX13_isTooMany 13 = .ok (.aload_n 0, 1) := by decide +kernel
theorem dX13_isTooMany_14 : decode cX13_isTooMany 14 = .ok (.getfield 7, 3) := by decide +kernel
theorem dX13_isTooMany_17 : decode cX13_isTooMany 17 = .ok (.bipush 22, 2) := by decide +kernel
theorem dX13_isTooMany_19 : decode cX13_isTooMany 19 = .ok (.iload_n 2, 1) := by decide +kernel
theorem dX13_isTooMany_20 : decode cX13_isTooMany 20 = .ok (.iadd, 1) := by decide +kernel
theorem dX13_isTooMany_21 : decode cX13_isTooMany 21 = .ok (.iaload, 1) := by decide +kernel
theorem dX13_isTooMany_22 : decode cX13_isTooMany 22 = .ok (.if_icmp .le 16, 3) := by decide +kernel
theorem dX13_isTooMany_25 : decode cX13_isTooMany 25 = .ok (.aload_n 0, 1) := by decide +kernel
theorem dX13_isTooMany_26 : decode cX13_isTooMany 26 = .ok (.iload_n 1, 1) := by decide +kernel
theorem dX13_isTooMany_27 : decode cX13_isTooMany 27 = .ok (.iload_n 2, 1) := by decide +kernel
theorem dX13_isTooMany_28 : decode cX13_isTooMany 28 = .ok (.invokevirtual 116, 3) := by decide +kernel
theorem dX13_isTooMany_31 : decode cX13_isTooMany 31 = .ok (.ifCond .ge 7, 3) := by decide +kernel
theorem dX13_isTooMany_34 : decode cX13_isTooMany 34 = .ok (.iconst 1, 1) := by decide +kernel
theorem dX13_isTooMany_35 : decode cX13_isTooMany 35 = .ok (.goto 4, 3) := by decide +kernel
theorem dX13_isTooMany_38 : decode cX13_isTooMany 38 = .ok (.iconst 0, 1) := by decide +kernel
theorem dX13_isTooMany_39 : decode cX13_isTooMany 39 = .ok (.ireturn, 1) := by decide +kernel
set_option maxRecDepth 20000 in
theorem ggX13_areFeuding_X13_isTooMany : GoodIn wsX13_areFeuding wsX13_isTooMany := goodIn_r _ [5, 6, 7, 8, 4, 9, 10, 11, 12, 13, 14, 15, 16, 17, 18, 19, 20, 21, 22, 23, 24, 25, 26, 27, 28, 29, 30, 31, 32, 33, 34, 35, 36, 37, 38, 39, 40, 41, 42, 43, 44, 45, 46, 47, 48] (by decide +kernel) (by decide +kernel)
set_option maxRecDepth 20000 in
theorem gX13_areFeuding_X13_isTooMany : GoodIn wsX13_areFeuding (wsV RX13 119 RX13 yX13_isTooMany wsX13_isTooMany) := goodIn_app (goodIn_of _ (by decide +kernel)) ggX13_areFeuding_X13_isTooMany
theorem dX13_areFeuding_0 : decode cX13_areFeuding 0 = .ok (.aload_n 0, 1) := by decide +kernel
theorem dX13_areFeuding_1 : decode cX13_areFeuding 1 = .ok (.iload_n 1, 1) := by decide +kernel
theorem dX13_areFeuding_2 : decode cX13_areFeuding 2 = .ok (.iload_n 2, 1) := by decide +kernel
theorem dX13_areFeuding_3 : decode cX13_areFeuding 3 = .ok (.invokevirtual 119, 3) := by decide +kernel
theorem dX13_areFeuding_6 : decode cX13_areFeuding 6 = .ok (.ifCond .ne 12, 3) := by decide +kernel
theorem dX13_areFeuding_9 : decode cX13_areFeuding 9 = .ok (.aload_n 0, 1) := by decide +kernel
theorem dX13_areFeuding_10 : decode cX13_areFeuding 10 = .ok (.iload_n 2, 1) := by decide +kernel
theorem dX13_areFeuding_11 : decode cX13_areFeuding 11 = .ok (.iload_n 1, 1) := by decide +kernel
theorem dX13_areFeuding_12 : decode cX13_areFeuding 12 = .ok (.invokevirtual 119, 3) := by decide +kernel
theorem dX13_areFeuding_15 : decode cX13_areFeuding 15 = .ok (.ifCond .eq 7, 3) := by decide +kernel
theorem dX13_areFeuding_18 : decode cX13_areFeuding 18 = .ok (.iconst 1, 1) := by decide +kernel
theorem dX13_areFeuding_19 : decode cX13_areFeuding 19 = .ok (.goto 4, 3) := by decide +kernel
theorem dX13_areFeuding_22 : decode cX13_areFeuding 22 = .ok (.iconst 0, 1) := by decide +kernel
theorem dX13_areFeuding_23 : decode cX13_areFeuding 23 = .ok (.ireturn, 1) := by decide +kernel
set_option maxRecDepth 20000 in
theorem ggX13_feudsOf_X13_areFeuding : GoodIn wsX13_feudsOf wsX13_areFeuding := goodIn_r _ [5, 6, 7, 8, 4, 9, 10, 11, 12, 13, 14, 15, 16, 17, 18, 19, 20, 21, 22, 23, 24, 25, 26, 27, 28, 29, 30, 31, 32, 33, 34, 35, 36, 37, 38, 39, 40, 41, 42, 43, 44, 45, 46, 47, 48, 49, 50, 51, 52] (by decide +kernel) (by decide +kernel)
set_option maxRecDepth 20000 in
theorem gX13_feudsOf_X13_areFeuding : GoodIn wsX13_feudsOf (wsV RX13 122 RX13 yX13_areFeuding wsX13_areFeuding) := goodIn_app (goodIn_of _ (by decide +kernel)) ggX13_feudsOf_X13_areFeuding
theorem dX13_feudsOf_0 : decode cX13_feudsOf 0 = .ok (.iconst 0, 1) := by decide +kernel
theorem dX13_feudsOf_1 : decode cX13_feudsOf 1 = .ok (.istore_n 2, 1) := by decide +kernel
theorem dX13_feudsOf_2 : decode cX13_feudsOf 2 = .ok (.iconst 0, 1) := by decide +kernel
theorem dX13_feudsOf_3 : decode cX13_feudsOf 3 = .ok (.istore_n 3, 1) := by decide +kernel
theorem dX13_feudsOf_4 : decode cX13_feudsOf 4 = .ok (.iload_n 3, 1) := by decide +kernel
theorem dX13_feudsOf_5 : decode cX13_feudsOf 5 = .ok (.bipush 12, 2) := by decide +kernel
theorem dX13_feudsOf_7 : decode cX13_feudsOf 7 = .ok (.if_icmp .ge 26, 3) := by decide +kernel
theorem dX13_feudsOf_10 : decode cX13_feudsOf 10 = .ok (.iload_n 2, 1) := by decide +kernel
theorem dX13_feudsOf_11 : decode cX13_feudsOf 11 = .ok (.aload_n 0, 1) := by decide +kernel
theorem dX13_feudsOf_12 : decode cX13_feudsOf 12 = .ok (.iload_n 1, 1) := by decide +kernel
theorem dX13_feudsOf_13 : decode cX13_feudsOf 13 = .ok (.iload_n 3, 1) := by decide +kernel
theorem dX13_feudsOf_14 : decode cX13_feudsOf 14 = .ok (.invokevirtual 122, 3) := by decide +kernel
theorem dX13_feudsOf_17 : decode cX13_feudsOf 17 = .ok (.ifCond .eq 7, 3) := by decide +kernel
theorem dX13_feudsOf_20 : decode cX13_feudsOf 20 = .ok (.iconst 1, 1) := by decide +kernel
theorem dX13_feudsOf_21 : decode cX13_feudsOf 21 = .ok (.goto 4, 3) := by decide +kernel
theorem dX13_feudsOf_24 : decode cX13_feudsOf 24 = .ok (.iconst 0, 1) := by decide +kernel
theorem dX13_feudsOf_25 : decode cX13_feudsOf 25 = .ok (.iadd, 1) := by decide +kernel
theorem dX13_feudsOf_26 : decode cX13_feudsOf 26 = .ok (.istore_n 2, 1) := by decide +kernel
theorem dX13_feudsOf_27 : decode cX13_feudsOf 27 = .ok (.iinc 3 1, 3) := by decide +kernel
theorem dX13_feudsOf_30 : decode cX13_feudsOf 30 = .ok (.goto (-26), 3) := by decide +kernel
theorem dX13_feudsOf_33 : decode cX13_feudsOf 33 = .ok (.iload_n 2, 1) := by decide +kernel
theorem dX13_feudsOf_34 : decode cX13_feudsOf 34 = .ok (.ireturn, 1) := by decide +kernel
set_option maxRecDepth 20000 in
theorem ggX13_allFeuds_X13_feudsOf : GoodIn wsX13_allFeuds wsX13_feudsOf := goodIn_r _ [5, 6, 7, 8, 4, 9, 10, 11, 12, 13, 14, 15, 16, 17, 18, 19, 20, 21, 22, 23, 24, 25, 26, 27, 28, 29, 30, 31, 32, 33, 34, 35, 36, 37, 38, 39, 40, 41, 42, 43, 44, 45, 46, 47, 48, 49, 50, 51, 52, 53, 54, 55, 56] (by decide +kernel) (by decide +kernel)
set_option maxRecDepth 20000 in
theorem gX13_allFeuds_X13_feudsOf : GoodIn wsX13_allFeuds (wsV RX13 125 RX13 yX13_feudsOf wsX13_feudsOf) := goodIn_app (goodIn_of _ (by decide +kernel)) ggX13_allFeuds_X13_feudsOf
theorem dX13_allFeuds_0 : decode cX13_allFeuds 0 = .ok (.iconst 0, 1) := by decide +kernel
theorem dX13_allFeuds_1 : decode cX13_allFeuds 1 = .ok (.istore_n 1, 1) := by decide +kernel
theorem dX13_allFeuds_2 : decode cX13_allFeuds 2 = .ok (.iconst 0, 1) := by decide +kernel
theorem dX13_allFeuds_3 : decode cX13_allFeuds 3 = .ok (.istore_n 2, 1) := by decide +kernel
theorem dX13_allFeuds_4 : decode cX13_allFeuds 4 = .ok (.iload_n 2, 1) := by decide +kernel
theorem dX13_allFeuds_5 : decode cX13_allFeuds 5 = .ok (.bipush 12, 2) := by decide +kernel
theorem dX13_allFeuds_7 : decode cX13_allFeuds 7 = .ok (.if_icmp .ge 17, 3) := by decide +kernel
theorem dX13_allFeuds_10 : decode cX13_allFeuds 10 = .ok (.iload_n 1, 1) := by decide +kernel
theorem dX13_allFeuds_11 : decode cX13_allFeuds 11 = .ok (.aload_n 0, 1) := by decide +kernel
theorem dX13_allFeuds_12 : decode cX13_allFeuds 12 = .ok (.iload_n 2, 1) := by decide +kernel
theorem dX13_allFeuds_13 : decode cX13_allFeuds 13 = .ok (.invokevirtual 125, 3) := by decide +kernel
theorem dX13_allFeuds_16 : decode cX13_allFeuds 16 = .ok (.iadd, 1) := by decide +kernel
theorem dX13_allFeuds_17 : decode cX13_allFeuds 17 = .ok (.istore_n 1, 1) := by decide +kernel
theorem dX13_allFeuds_18 : decode cX13_allFeuds 18 = .ok (.iinc 2 1, 3) := by decide +kernel
theorem dX13_allFeuds_21 : decode cX13_allFeuds 21 = .ok (.goto (-17), 3) := by decide +kernel
theorem dX13_allFeuds_24 : decode cX13_allFeuds 24 = .ok (.iload_n 1, 1) := by decide +kernel
theorem dX13_allFeuds_25 : decode cX13_allFeuds 25 = .ok (.iconst 2, 1) := by decide +kernel
theorem dX13_allFeuds_26 : decode cX13_allFeuds 26 = .ok (.idiv, 1) := by decide +kernel
theorem dX13_allFeuds_27 : decode cX13_allFeuds 27 = .ok (.ireturn, 1) := by decide +kernel
theorem dX13_clears_0 : decode cX13_clears 0 = .ok (.iconst 0, 1) := by decide +kernel
theorem dX13_clears_1 : decode cX13_clears 1 = .ok (.istore_n 1, 1) := by decide +kernel
theorem dX13_clears_2 : decode cX13_clears 2 = .ok (.iload_n 1, 1) := by decide +kernel
theorem dX13_clears_3 : decode cX13_clears 3 = .ok (.sipush 240, 3) := by decide +kernel
theorem dX13_clears_6 : decode cX13_clears 6 = .ok (.if_icmp .ge 16, 3) := by decide +kernel
theorem dX13_clears_9 : decode cX13_clears 9 = .ok (.aload_n 0, 1) := by decide +kernel
theorem dX13_clears_10 : decode cX13_clears 10 = .ok (.getfield 7, 3) := by decide +kernel
theorem dX13_clears_13 : decode cX13_clears 13 = .ok (.iload_n 1, 1) := by decide +kernel
theorem dX13_clears_14 : decode cX13_clears 14 = .ok (.iconst 0, 1) := by decide +kernel
theorem dX13_clears_15 : decode cX13_clears 15 = .ok (.iastore, 1) := by decide +kernel
theorem dX13_clears_16 : decode cX13_clears 16 = .ok (.iinc 1 1, 3) := by decide +kernel
theorem dX13_clears_19 : decode cX13_clears 19 = .ok (.goto (-17), 3) := by decide +kernel
theorem dX13_clears_22 : decode cX13_clears 22 = .ok (.iconst 0, 1) := by decide +kernel
theorem dX13_clears_23 : decode cX13_clears 23 = .ok (.istore_n 1, 1) := by decide +kernel
theorem dX13_clears_24 : decode cX13_clears 24 = .ok (.iload_n 1, 1) := by decide +kernel
theorem dX13_clears_25 : decode cX13_clears 25 = .ok (.bipush 12, 2) := by decide +kernel
theorem dX13_clears_27 : decode cX13_clears 27 = .ok (.if_icmp .ge 19, 3) := by decide +kernel
theorem dX13_clears_30 : decode cX13_clears 30 = .ok (.aload_n 0, 1) := by decide +kernel
theorem dX13_clears_31 : decode cX13_clears 31 = .ok (.getfield 7, 3) := by decide +kernel
theorem dX13_clears_34 : decode cX13_clears 34 = .ok (.bipush 22, 2) := by decide +kernel
theorem dX13_clears_36 : decode cX13_clears 36 = .ok (.iload_n 1, 1) := by decide +kernel
theorem dX13_clears_37 : decode cX13_clears 37 = .ok (.iadd, 1) := by decide +kernel
theorem dX13_clears_38 : decode cX13_clears 38 = .ok (.iconst 3, 1) := by decide +kernel
theorem dX13_clears_39 : decode cX13_clears 39 = .ok (.iastore, 1) := by decide +kernel
theorem dX13_clears_40 : decode cX13_clears 40 = .ok (.iinc 1 1, 3) := by decide +kernel
theorem dX13_clears_43 : decode cX13_clears 43 = .ok (.goto (-19), 3) := by decide +kernel
theorem dX13_clears_46 : decode cX13_clears 46 = .ok (.return_, 1) := by decide +kernel
set_option maxRecDepth 20000 in
theorem ggX13_clear_X13_allPlants : GoodIn wsX13_clear wsX13_allPlants := goodIn_r _ [6, 7, 8, 9, 5, 10, 11, 16, 17, 18, 19, 20, 21, 22, 23, 24, 25, 26, 27, 28, 29, 30, 31, 32, 33, 34, 35, 36, 37, 38, 39, 40, 41, 42] (by decide +kernel) (by decide +kernel)
set_option maxRecDepth 20000 in
theorem gX13_clear_X13_allPlants : GoodIn wsX13_clear (wsV RX13 128 RX13 yX13_allPlants wsX13_allPlants) := goodIn_app (goodIn_of _ (by decide +kernel)) ggX13_clear_X13_allPlants
set_option maxRecDepth 20000 in
theorem ggX13_clear_X13_clears : GoodIn wsX13_clear wsX13_clears := goodIn_r _ [15, 11, 16, 17, 18, 19, 20, 21, 22, 23, 24, 25, 26, 27, 28, 29, 30, 31, 32, 33, 34, 35, 36, 37, 38, 39, 40, 41, 42] (by decide +kernel) (by decide +kernel)
set_option maxRecDepth 20000 in
theorem gX13_clear_X13_clears : GoodIn wsX13_clear (wsV RX13 93 RX13 yX13_clears wsX13_clears) := goodIn_app (goodIn_of _ (by decide +kernel)) ggX13_clear_X13_clears
theorem dX13_clear_0 : decode cX13_clear 0 = .ok (.aload_n 0, 1) := by decide +kernel
theorem dX13_clear_1 : decode cX13_clear 1 = .ok (.invokevirtual 128, 3) := by decide +kernel
theorem dX13_clear_4 : decode cX13_clear 4 = .ok (.istore_n 1, 1) := by decide +kernel
theorem dX13_clear_5 : decode cX13_clear 5 = .ok (.aload_n 0, 1) := by decide +kernel
theorem dX13_clear_6 : decode cX13_clear 6 = .ok (.invokevirtual 93, 3) := by decide +kernel
theorem dX13_clear_9 : decode cX13_clear 9 = .ok (.aload_n 0, 1) := by decide +kernel
theorem dX13_clear_10 : decode cX13_clear 10 = .ok (.iconst 0, 1) := by decide +kernel
theorem dX13_clear_11 : decode cX13_clear 11 = .ok (.putfield 25, 3) := by decide +kernel
theorem dX13_clear_14 : decode cX13_clear 14 = .ok (.iload_n 1, 1) := by decide +kernel
theorem dX13_clear_15 : decode cX13_clear 15 = .ok (.ireturn, 1) := by decide +kernel
set_option maxRecDepth 20000 in
theorem ggX13_areMany_X13_in : GoodIn wsX13_areMany wsX13_in := goodIn_r _ [4] (by decide +kernel) (by decide +kernel)
set_option maxRecDepth 20000 in
theorem gX13_areMany_X13_in : GoodIn wsX13_areMany (va_wsS RX13 100 yX13_in wsX13_in) := goodIn_app (goodIn_of _ (by decide +kernel)) ggX13_areMany_X13_in
theorem dX13_areMany_0 : decode cX13_areMany 0 = .ok (.iload_n 0, 1) := by decide +kernel
theorem dX13_areMany_1 : decode cX13_areMany 1 = .ok (.iconst 1, 1) := by decide +kernel
theorem dX13_areMany_2 : decode cX13_areMany 2 = .ok (.bipush 9, 2) := by decide +kernel
theorem dX13_areMany_4 : decode cX13_areMany 4 = .ok (.invokestatic 100, 3) := by decide +kernel
theorem dX13_areMany_7 : decode cX13_areMany 7 = .ok (.ireturn, 1) := by decide +kernel
set_option maxRecDepth 20000 in
theorem ggX13_isRefusedPlant_X13_plants : GoodIn wsX13_isRefusedPlant wsX13_plants := goodIn_r _ [5, 6, 13, 14, 15, 16, 17, 18, 19, 20, 21, 22, 23, 24, 25, 26, 27, 28, 29, 30, 31, 32, 33, 34, 35, 36, 37, 38, 39] (by decide +kernel) (by decide +kernel)
set_option maxRecDepth 20000 in
theorem gX13_isRefusedPlant_X13_plants : GoodIn wsX13_isRefusedPlant (wsV RX13 104 RX13 yX13_plants wsX13_plants) := goodIn_app (goodIn_of _ (by decide +kernel)) ggX13_isRefusedPlant_X13_plants
set_option maxRecDepth 20000 in
theorem ggX13_isRefusedPlant_X13_isBad : GoodIn wsX13_isRefusedPlant wsX13_isBad := goodIn_r _ [10, 11, 12, 13, 14, 15, 16, 17, 18, 19, 20, 21, 22, 23, 24, 25, 26, 27, 28, 29, 30, 31, 32, 33, 34, 35, 36, 37, 38, 39] (by decide +kernel) (by decide +kernel)
set_option maxRecDepth 20000 in
theorem gX13_isRefusedPlant_X13_isBad : GoodIn wsX13_isRefusedPlant (wsV RX13 132 RX13 yX13_isBad wsX13_isBad) := goodIn_app (goodIn_of _ (by decide +kernel)) ggX13_isRefusedPlant_X13_isBad
theorem dX13_isRefusedPlant_0 : decode cX13_isRefusedPlant 0 = .ok (.aload_n 0, 1) := by decide +kernel
theorem dX13_isRefusedPlant_1 : decode cX13_isRefusedPlant 1 = .ok (.iload_n 1, 1) := by decide +kernel
theorem dX13_isRefusedPlant_2 : decode cX13_isRefusedPlant 2 = .ok (.invokevirtual 104, 3) := by decide +kernel
theorem dX13_isRefusedPlant_5 : decode cX13_isRefusedPlant 5 = .ok (.iload_n 2, 1) := by decide +kernel
theorem dX13_isRefusedPlant_6 : decode cX13_isRefusedPlant 6 = .ok (.iadd, 1) := by decide +kernel
theorem dX13_isRefusedPlant_7 : decode cX13_isRefusedPlant 7 = .ok (.bipush 9, 2) := by decide +kernel
theorem dX13_isRefusedPlant_9 : decode cX13_isRefusedPlant 9 = .ok (.if_icmp .le 20, 3) := by decide +kernel
theorem dX13_isRefusedPlant_12 : decode cX13_isRefusedPlant 12 = .ok (.aload_n 0, 1) := by decide +kernel
theorem dX13_isRefusedPlant_13 : decode cX13_isRefusedPlant 13 = .ok (.iconst 4, 1) := by decide +kernel
theorem dX13_isRefusedPlant_14 : decode cX13_isRefusedPlant 14 = .ok (.aload_n 0, 1) := by decide +kernel
theorem dX13_isRefusedPlant_15 : decode cX13_isRefusedPlant 15 = .ok (.iload_n 1, 1) := by decide +kernel
theorem dX13_isRefusedPlant_16 : decode cX13_isRefusedPlant 16 = .ok (.invokevirtual 104, 3) := by decide +kernel
theorem dX13_isRefusedPlant_19 : decode cX13_isRefusedPlant 19 = .ok (.invokevirtual 132, 3) := by decide +kernel
theorem dX13_isRefusedPlant_22 : decode cX13_isRefusedPlant 22 = .ok (.ifCond .eq 7, 3) := by decide +kernel
theorem dX13_isRefusedPlant_25 : decode cX13_isRefusedPlant 25 = .ok (.iconst 1, 1) := by decide +kernel
theorem dX13_isRefusedPlant_26 : decode cX13_isRefusedPlant 26 = .ok (.goto 4, 3) := by decide +kernel
theorem dX13_isRefusedPlant_29 : decode cX13_isRefusedPlant 29 = .ok (.iconst 0, 1) := by decide +kernel
theorem dX13_isRefusedPlant_30 : decode cX13_isRefusedPlant 30 = .ok (.ireturn, 1) := by decide +kernel
set_option maxRecDepth 20000 in
theorem ggX13_puts_X13_plants : GoodIn wsX13_puts wsX13_plants := goodIn_r _ [6, 1, 7, 8, 9, 10, 11, 12, 13, 14, 15, 16, 17, 18, 19, 20, 21, 22, 23, 24, 25, 26, 27, 28, 29, 30, 31, 32, 33] (by decide +kernel) (by decide +kernel)
set_option maxRecDepth 20000 in
theorem gX13_puts_X13_plants : GoodIn wsX13_puts (wsV RX13 104 RX13 yX13_plants wsX13_plants) := goodIn_app (goodIn_of _ (by decide +kernel)) ggX13_puts_X13_plants
theorem dX13_puts_0 : decode cX13_puts 0 = .ok (.aload_n 0, 1) := by decide +kernel
theorem dX13_puts_1 : decode cX13_puts 1 = .ok (.getfield 7, 3) := by decide +kernel
theorem dX13_puts_4 : decode cX13_puts 4 = .ok (.bipush 10, 2) := by decide +kernel
theorem dX13_puts_6 : decode cX13_puts 6 = .ok (.iload_n 1, 1) := by decide +kernel
theorem dX13_puts_7 : decode cX13_puts 7 = .ok (.iadd, 1) := by decide +kernel
theorem dX13_puts_8 : decode cX13_puts 8 = .ok (.dup2, 1) := by decide +kernel
theorem dX13_puts_9 : decode cX13_puts 9 = .ok (.iaload, 1) := by decide +kernel
theorem dX13_puts_10 : decode cX13_puts 10 = .ok (.iload_n 2, 1) := by decide +kernel
theorem dX13_puts_11 : decode cX13_puts 11 = .ok (.iadd, 1) := by decide +kernel
theorem dX13_puts_12 : decode cX13_puts 12 = .ok (.iastore, 1) := by decide +kernel
theorem dX13_puts_13 : decode cX13_puts 13 = .ok (.aload_n 0, 1) := by decide +kernel
theorem dX13_puts_14 : decode cX13_puts 14 = .ok (.getfield 7, 3) := by decide +kernel
theorem dX13_puts_17 : decode cX13_puts 17 = .ok (.iconst 4, 1) := by decide +kernel
theorem dX13_puts_18 : decode cX13_puts 18 = .ok (.dup2, 1) := by decide +kernel
theorem dX13_puts_19 : decode cX13_puts 19 = .ok (.iaload, 1) := by decide +kernel
theorem dX13_puts_20 : decode cX13_puts 20 = .ok (.iload_n 2, 1) := by decide +kernel
theorem dX13_puts_21 : decode cX13_puts 21 = .ok (.iadd, 1) := by decide +kernel
theorem dX13_puts_22 : decode cX13_puts 22 = .ok (.iastore, 1) := by decide +kernel
theorem dX13_puts_23 : decode cX13_puts 23 = .ok (.aload_n 0, 1) := by decide +kernel
theorem dX13_puts_24 : decode cX13_puts 24 = .ok (.iload_n 1, 1) := by decide +kernel
theorem dX13_puts_25 : decode cX13_puts 25 = .ok (.invokevirtual 104, 3) := by decide +kernel
theorem dX13_puts_28 : decode cX13_puts 28 = .ok (.ireturn, 1) := by decide +kernel
set_option maxRecDepth 20000 in
theorem ggX13_plant_X13_begins : GoodIn wsX13_plant wsX13_begins := goodIn_r _ [5, 6, 7, 8, 9, 4, 10, 51, 52, 53, 54, 55, 56, 57, 58, 59, 60, 61, 62, 63, 64, 65, 66, 67, 68, 69, 70, 71, 72, 73, 74, 75, 76, 77] (by decide +kernel) (by decide +kernel)
set_option maxRecDepth 20000 in
theorem gX13_plant_X13_begins : GoodIn wsX13_plant (wsV RX13 135 RX13 yX13_begins wsX13_begins) := goodIn_app (goodIn_of _ (by decide +kernel)) ggX13_plant_X13_begins
set_option maxRecDepth 20000 in
theorem ggX13_plant_X13_isBalcony : GoodIn wsX13_plant wsX13_isBalcony := goodIn_r _ [13, 14, 15, 4, 16] (by decide +kernel) (by decide +kernel)
set_option maxRecDepth 20000 in
theorem gX13_plant_X13_isBalcony : GoodIn wsX13_plant (va_wsS RX13 138 yX13_isBalcony wsX13_isBalcony) := goodIn_app (goodIn_of _ (by decide +kernel)) ggX13_plant_X13_isBalcony
set_option maxRecDepth 20000 in
theorem ggX13_plant_X13_areMany : GoodIn wsX13_plant wsX13_areMany := goodIn_r _ [19, 14, 15, 4, 16] (by decide +kernel) (by decide +kernel)
set_option maxRecDepth 20000 in
theorem gX13_plant_X13_areMany : GoodIn wsX13_plant (va_wsS RX13 142 yX13_areMany wsX13_areMany) := goodIn_app (goodIn_of _ (by decide +kernel)) ggX13_plant_X13_areMany
set_option maxRecDepth 20000 in
theorem ggX13_plant_X13_isRefusedPlant : GoodIn wsX13_plant wsX13_isRefusedPlant := goodIn_r _ [23, 24, 25, 26, 4, 27, 6, 28, 29, 30, 31, 32, 33, 51, 52, 53, 54, 55, 56, 57, 58, 59, 60, 61, 62, 63, 64, 65, 66, 67, 68, 69, 70, 71, 72, 73, 74, 75, 76, 77] (by decide +kernel) (by decide +kernel)
set_option maxRecDepth 20000 in
theorem gX13_plant_X13_isRefusedPlant : GoodIn wsX13_plant (wsV RX13 145 RX13 yX13_isRefusedPlant wsX13_isRefusedPlant) := goodIn_app (goodIn_of _ (by decide +kernel)) ggX13_plant_X13_isRefusedPlant
set_option maxRecDepth 20000 in
theorem ggX13_plant_X13_refused : GoodIn wsX13_plant wsX13_refused := goodIn_r _ [37, 32, 38, 33, 39, 40, 51, 52, 53, 54, 55, 56, 57, 58, 59, 60, 61, 62, 63, 64, 65, 66, 67, 68, 69, 70, 71, 72, 73, 74, 75, 76, 77] (by decide +kernel) (by decide +kernel)
set_option maxRecDepth 20000 in
theorem gX13_plant_X13_refused : GoodIn wsX13_plant (wsV RX13 148 RX13 yX13_refused wsX13_refused) := goodIn_app (goodIn_of _ (by decide +kernel)) ggX13_plant_X13_refused
set_option maxRecDepth 20000 in
theorem ggX13_plant_X13_puts : GoodIn wsX13_plant wsX13_puts := goodIn_r _ [44, 6, 24, 25, 26, 4, 27, 51, 52, 53, 54, 55, 56, 57, 58, 59, 60, 61, 62, 63, 64, 65, 66, 67, 68, 69, 70, 71, 72, 73, 74, 75, 76, 77] (by decide +kernel) (by decide +kernel)
set_option maxRecDepth 20000 in
theorem gX13_plant_X13_puts : GoodIn wsX13_plant (wsV RX13 151 RX13 yX13_puts wsX13_puts) := goodIn_app (goodIn_of _ (by decide +kernel)) ggX13_plant_X13_puts
set_option maxRecDepth 20000 in
theorem ggX13_plant_X13_keeps : GoodIn wsX13_plant wsX13_keeps := goodIn_r _ [48, 49, 50, 7, 8, 9, 4, 10, 51, 52, 53, 54, 55, 56, 57, 58, 59, 60, 61, 62, 63, 64, 65, 66, 67, 68, 69, 70, 71, 72, 73, 74, 75, 76, 77] (by decide +kernel) (by decide +kernel)
set_option maxRecDepth 20000 in
theorem gX13_plant_X13_keeps : GoodIn wsX13_plant (wsV RX13 154 RX13 yX13_keeps wsX13_keeps) := goodIn_app (goodIn_of _ (by decide +kernel)) ggX13_plant_X13_keeps
theorem dX13_plant_0 : decode cX13_plant 0 = .ok (.aload_n 0, 1) := by decide +kernel
theorem dX13_plant_1 : decode cX13_plant 1 = .ok (.invokevirtual 135, 3) := by decide +kernel
theorem dX13_plant_4 : decode cX13_plant 4 = .ok (.iload_n 1, 1) := by decide +kernel
theorem dX13_plant_5 : decode cX13_plant 5 = .ok (.invokestatic 138, 3) := by decide +kernel
theorem dX13_plant_8 : decode cX13_plant 8 = .ok (.ifCond .ne 5, 3) := by decide +kernel
theorem dX13_plant_11 : decode cX13_plant 11 = .ok (.iconst (-1), 1) := by decide +kernel
theorem dX13_plant_12 : decode cX13_plant 12 = .ok (.ireturn, 1) := by decide +kernel
theorem dX13_plant_13 : decode cX13_plant 13 = .ok (.iload_n 2, 1) := by decide +kernel
theorem dX13_plant_14 : decode cX13_plant 14 = .ok (.invokestatic 142, 3) := by decide +kernel
theorem dX13_plant_17 : decode cX13_plant 17 = .ok (.ifCond .ne 6, 3) := by decide +kernel
theorem dX13_plant_20 : decode cX13_plant 20 = .ok (.bipush (-2), 2) := by decide +kernel
theorem dX13_plant_22 : decode cX13_plant 22 = .ok (.ireturn, 1) := by decide +kernel
theorem dX13_plant_23 : decode cX13_plant 23 = .ok (.aload_n 0, 1) := by decide +kernel
theorem dX13_plant_24 : decode cX13_plant 24 = .ok (.iload_n 1, 1) := by decide +kernel
theorem dX13_plant_25 : decode cX13_plant 25 = .ok (.iload_n 2, 1) := by decide +kernel
theorem dX13_plant_26 : decode cX13_plant 26 = .ok (.invokevirtual 145, 3) := by decide +kernel
theorem dX13_plant_29 : decode cX13_plant 29 = .ok (.ifCond .eq 10, 3) := by decide +kernel
theorem dX13_plant_32 : decode cX13_plant 32 = .ok (.aload_n 0, 1) := by decide +kernel
theorem dX13_plant_33 : decode cX13_plant 33 = .ok (.invokevirtual 148, 3) := by decide +kernel
theorem dX13_plant_36 : decode cX13_plant 36 = .ok (.goto 13, 3) := by decide +kernel
theorem dX13_plant_39 : decode cX13_plant 39 = .ok (.aload_n 0, 1) := by decide +kernel
theorem dX13_plant_40 : decode cX13_plant 40 = .ok (.aload_n 0, 1) := by decide +kernel
theorem dX13_plant_41 : decode cX13_plant 41 = .ok (.iload_n 1, 1) := by decide +kernel
theorem dX13_plant_42 : decode cX13_plant 42 = .ok (.iload_n 2, 1) := by decide +kernel
theorem dX13_plant_43 : decode cX13_plant 43 = .ok (.invokevirtual 151, 3) := by decide +kernel
theorem dX13_plant_46 : decode cX13_plant 46 = .ok (.invokevirtual 154, 3) := by decide +kernel
theorem dX13_plant_49 : decode cX13_plant 49 = .ok (.ireturn, 1) := by decide +kernel
set_option maxRecDepth 20000 in
theorem ggX13_isTolerance_X13_in : GoodIn wsX13_isTolerance wsX13_in := goodIn_r _ [4] (by decide +kernel) (by decide +kernel)
set_option maxRecDepth 20000 in
theorem gX13_isTolerance_X13_in : GoodIn wsX13_isTolerance (va_wsS RX13 100 yX13_in wsX13_in) := goodIn_app (goodIn_of _ (by decide +kernel)) ggX13_isTolerance_X13_in
theorem dX13_isTolerance_0 : decode cX13_isTolerance 0 = .ok (.iload_n 0, 1) := by decide +kernel
theorem dX13_isTolerance_1 : decode cX13_isTolerance 1 = .ok (.iconst 0, 1) := by decide +kernel
theorem dX13_isTolerance_2 : decode cX13_isTolerance 2 = .ok (.bipush 9, 2) := by decide +kernel
theorem dX13_isTolerance_4 : decode cX13_isTolerance 4 = .ok (.invokestatic 100, 3) := by decide +kernel
theorem dX13_isTolerance_7 : decode cX13_isTolerance 7 = .ok (.ireturn, 1) := by decide +kernel
set_option maxRecDepth 20000 in
theorem ggX13_isRefusedBear_X13_isBad : GoodIn wsX13_isRefusedBear wsX13_isBad := goodIn_r _ [6, 7, 8, 9, 10, 11, 12, 13, 14, 15, 16, 17, 18, 19, 20, 21, 22, 23, 24, 25, 26, 27, 28, 29, 30, 31, 32, 33, 34, 35] (by decide +kernel) (by decide +kernel)
set_option maxRecDepth 20000 in
theorem gX13_isRefusedBear_X13_isBad : GoodIn wsX13_isRefusedBear (wsV RX13 132 RX13 yX13_isBad wsX13_isBad) := goodIn_app (goodIn_of _ (by decide +kernel)) ggX13_isRefusedBear_X13_isBad
theorem dX13_isRefusedBear_0 : decode cX13_isRefusedBear 0 = .ok (.aload_n 0, 1) := by decide +kernel
theorem dX13_isRefusedBear_1 : decode cX13_isRefusedBear 1 = .ok (.getfield 7, 3) := by decide +kernel
theorem dX13_isRefusedBear_4 : decode cX13_isRefusedBear 4 = .ok (.bipush 22, 2) := by decide +kernel
theorem dX13_isRefusedBear_6 : decode cX13_isRefusedBear 6 = .ok (.iload_n 1, 1) := by decide +kernel
theorem dX13_isRefusedBear_7 : decode cX13_isRefusedBear 7 = .ok (.iadd, 1) := by decide +kernel
theorem dX13_isRefusedBear_8 : decode cX13_isRefusedBear 8 = .ok (.iaload, 1) := by decide +kernel
theorem dX13_isRefusedBear_9 : decode cX13_isRefusedBear 9 = .ok (.iload_n 2, 1) := by decide +kernel
theorem dX13_isRefusedBear_10 : decode cX13_isRefusedBear 10 = .ok (.if_icmp .ne 16, 3) := by decide +kernel
theorem dX13_isRefusedBear_13 : decode cX13_isRefusedBear 13 = .ok (.aload_n 0, 1) := by decide +kernel
theorem dX13_isRefusedBear_14 : decode cX13_isRefusedBear 14 = .ok (.iconst 3, 1) := by decide +kernel
theorem dX13_isRefusedBear_15 : decode cX13_isRefusedBear 15 = .ok (.iload_n 2, 1) := by decide +kernel
theorem dX13_isRefusedBear_16 : decode cX13_isRefusedBear 16 = .ok (.invokevirtual 132, 3) := by decide +kernel
theorem dX13_isRefusedBear_19 : decode cX13_isRefusedBear 19 = .ok (.ifCond .eq 7, 3) := by decide +kernel
theorem dX13_isRefusedBear_22 : decode cX13_isRefusedBear 22 = .ok (.iconst 1, 1) := by decide +kernel
theorem dX13_isRefusedBear_23 : decode cX13_isRefusedBear 23 = .ok (.goto 4, 3) := by decide +kernel
theorem dX13_isRefusedBear_26 : decode cX13_isRefusedBear 26 = .ok (.iconst 0, 1) := by decide +kernel
theorem dX13_isRefusedBear_27 : decode cX13_isRefusedBear 27 = .ok (.ireturn, 1) := by decide +kernel
theorem dX13_tells_0 : decode cX13_tells 0 = .ok (.aload_n 0, 1) := by decide +kernel
theorem dX13_tells_1 : decode cX13_tells 1 = .ok (.getfield 7, 3) := by decide +kernel
theorem dX13_tells_4 : decode cX13_tells 4 = .ok (.bipush 22, 2) := by decide +kernel
theorem dX13_tells_6 : decode cX13_tells 6 = .ok (.iload_n 1, 1) := by decide +kernel
theorem dX13_tells_7 : decode cX13_tells 7 = .ok (.iadd, 1) := by decide +kernel
theorem dX13_tells_8 : decode cX13_tells 8 = .ok (.iaload, 1) := by decide +kernel
theorem dX13_tells_9 : decode cX13_tells 9 = .ok (.istore_n 3, 1) := by decide +kernel
theorem dX13_tells_10 : decode cX13_tells 10 = .ok (.aload_n 0, 1) := by decide +kernel
theorem dX13_tells_11 : decode cX13_tells 11 = .ok (.getfield 7, 3) := by decide +kernel
theorem dX13_tells_14 : decode cX13_tells 14 = .ok (.bipush 22, 2) := by decide +kernel
theorem dX13_tells_16 : decode cX13_tells 16 = .ok (.iload_n 1, 1) := by decide +kernel
theorem dX13_tells_17 : decode cX13_tells 17 = .ok (.iadd, 1) := by decide +kernel
theorem dX13_tells_18 : decode cX13_tells 18 = .ok (.iload_n 2, 1) := by decide +kernel
theorem dX13_tells_19 : decode cX13_tells 19 = .ok (.iastore, 1) := by decide +kernel
theorem dX13_tells_20 : decode cX13_tells 20 = .ok (.iload_n 3, 1) := by decide +kernel
theorem dX13_tells_21 : decode cX13_tells 21 = .ok (.ireturn, 1) := by decide +kernel
set_option maxRecDepth 20000 in
theorem ggX13_bear_X13_begins : GoodIn wsX13_bear wsX13_begins := goodIn_r _ [5, 6, 7, 8, 9, 4, 10, 47, 48, 49, 50, 51, 52, 53, 54, 55, 56, 57, 58, 59, 60, 61, 62, 63, 64, 65, 66, 67, 68, 69, 70, 71, 72, 73] (by decide +kernel) (by decide +kernel)
set_option maxRecDepth 20000 in
theorem gX13_bear_X13_begins : GoodIn wsX13_bear (wsV RX13 135 RX13 yX13_begins wsX13_begins) := goodIn_app (goodIn_of _ (by decide +kernel)) ggX13_bear_X13_begins
set_option maxRecDepth 20000 in
theorem ggX13_bear_X13_isBalcony : GoodIn wsX13_bear wsX13_isBalcony := goodIn_r _ [13, 14, 15, 4, 16] (by decide +kernel) (by decide +kernel)
set_option maxRecDepth 20000 in
theorem gX13_bear_X13_isBalcony : GoodIn wsX13_bear (va_wsS RX13 138 yX13_isBalcony wsX13_isBalcony) := goodIn_app (goodIn_of _ (by decide +kernel)) ggX13_bear_X13_isBalcony
set_option maxRecDepth 20000 in
theorem ggX13_bear_X13_isTolerance : GoodIn wsX13_bear wsX13_isTolerance := goodIn_r _ [19, 14, 15, 4, 16] (by decide +kernel) (by decide +kernel)
set_option maxRecDepth 20000 in
theorem gX13_bear_X13_isTolerance : GoodIn wsX13_bear (va_wsS RX13 157 yX13_isTolerance wsX13_isTolerance) := goodIn_app (goodIn_of _ (by decide +kernel)) ggX13_bear_X13_isTolerance
set_option maxRecDepth 20000 in
theorem ggX13_bear_X13_isRefusedBear : GoodIn wsX13_bear wsX13_isRefusedBear := goodIn_r _ [23, 6, 24, 25, 26, 4, 27, 28, 29, 47, 48, 49, 50, 51, 52, 53, 54, 55, 56, 57, 58, 59, 60, 61, 62, 63, 64, 65, 66, 67, 68, 69, 70, 71, 72, 73] (by decide +kernel) (by decide +kernel)
set_option maxRecDepth 20000 in
theorem gX13_bear_X13_isRefusedBear : GoodIn wsX13_bear (wsV RX13 160 RX13 yX13_isRefusedBear wsX13_isRefusedBear) := goodIn_app (goodIn_of _ (by decide +kernel)) ggX13_bear_X13_isRefusedBear
set_option maxRecDepth 20000 in
theorem ggX13_bear_X13_refused : GoodIn wsX13_bear wsX13_refused := goodIn_r _ [33, 28, 34, 29, 35, 36, 47, 48, 49, 50, 51, 52, 53, 54, 55, 56, 57, 58, 59, 60, 61, 62, 63, 64, 65, 66, 67, 68, 69, 70, 71, 72, 73] (by decide +kernel) (by decide +kernel)
set_option maxRecDepth 20000 in
theorem gX13_bear_X13_refused : GoodIn wsX13_bear (wsV RX13 148 RX13 yX13_refused wsX13_refused) := goodIn_app (goodIn_of _ (by decide +kernel)) ggX13_bear_X13_refused
set_option maxRecDepth 20000 in
theorem ggX13_bear_X13_tells : GoodIn wsX13_bear wsX13_tells := goodIn_r _ [40, 6, 47, 48, 49, 50, 51, 52, 53, 54, 55, 56, 57, 58, 59, 60, 61, 62, 63, 64, 65, 66, 67, 68, 69, 70, 71, 72, 73] (by decide +kernel) (by decide +kernel)
set_option maxRecDepth 20000 in
theorem gX13_bear_X13_tells : GoodIn wsX13_bear (wsV RX13 163 RX13 yX13_tells wsX13_tells) := goodIn_app (goodIn_of _ (by decide +kernel)) ggX13_bear_X13_tells
set_option maxRecDepth 20000 in
theorem ggX13_bear_X13_keeps : GoodIn wsX13_bear wsX13_keeps := goodIn_r _ [44, 45, 46, 7, 8, 9, 4, 10, 47, 48, 49, 50, 51, 52, 53, 54, 55, 56, 57, 58, 59, 60, 61, 62, 63, 64, 65, 66, 67, 68, 69, 70, 71, 72, 73] (by decide +kernel) (by decide +kernel)
set_option maxRecDepth 20000 in
theorem gX13_bear_X13_keeps : GoodIn wsX13_bear (wsV RX13 154 RX13 yX13_keeps wsX13_keeps) := goodIn_app (goodIn_of _ (by decide +kernel)) ggX13_bear_X13_keeps
theorem dX13_bear_0 : decode cX13_bear 0 = .ok (.aload_n 0, 1) := by decide +kernel
theorem dX13_bear_1 : decode cX13_bear 1 = .ok (.invokevirtual 135, 3) := by decide +kernel
theorem dX13_bear_4 : decode cX13_bear 4 = .ok (.iload_n 1, 1) := by decide +kernel
theorem dX13_bear_5 : decode cX13_bear 5 = .ok (.invokestatic 138, 3) := by decide +kernel
theorem dX13_bear_8 : decode cX13_bear 8 = .ok (.ifCond .ne 5, 3) := by decide +kernel
theorem dX13_bear_11 : decode cX13_bear 11 = .ok (.iconst (-1), 1) := by decide +kernel
theorem dX13_bear_12 : decode cX13_bear 12 = .ok (.ireturn, 1) := by decide +kernel
theorem dX13_bear_13 : decode cX13_bear 13 = .ok (.iload_n 2, 1) := by decide +kernel
theorem dX13_bear_14 : decode cX13_bear 14 = .ok (.invokestatic 157, 3) := by decide +kernel
theorem dX13_bear_17 : decode cX13_bear 17 = .ok (.ifCond .ne 6, 3) := by decide +kernel
theorem dX13_bear_20 : decode cX13_bear 20 = .ok (.bipush (-2), 2) := by decide +kernel
theorem dX13_bear_22 : decode cX13_bear 22 = .ok (.ireturn, 1) := by decide +kernel
theorem dX13_bear_23 : decode cX13_bear 23 = .ok (.aload_n 0, 1) := by decide +kernel
theorem dX13_bear_24 : decode cX13_bear 24 = .ok (.iload_n 1, 1) := by decide +kernel
theorem dX13_bear_25 : decode cX13_bear 25 = .ok (.iload_n 2, 1) := by decide +kernel
theorem dX13_bear_26 : decode cX13_bear 26 = .ok (.invokevirtual 160, 3) := by decide +kernel
theorem dX13_bear_29 : decode cX13_bear 29 = .ok (.ifCond .eq 10, 3) := by decide +kernel
theorem dX13_bear_32 : decode cX13_bear 32 = .ok (.aload_n 0, 1) := by decide +kernel
theorem dX13_bear_33 : decode cX13_bear 33 = .ok (.invokevirtual 148, 3) := by decide +kernel
theorem dX13_bear_36 : decode cX13_bear 36 = .ok (.goto 13, 3) := by decide +kernel
theorem dX13_bear_39 : decode cX13_bear 39 = .ok (.aload_n 0, 1) := by decide +kernel
theorem dX13_bear_40 : decode cX13_bear 40 = .ok (.aload_n 0, 1) := by decide +kernel
theorem dX13_bear_41 : decode cX13_bear 41 = .ok (.iload_n 1, 1) := by decide +kernel
theorem dX13_bear_42 : decode cX13_bear 42 = .ok (.iload_n 2, 1) := by decide +kernel
theorem dX13_bear_43 : decode cX13_bear 43 = .ok (.invokevirtual 163, 3) := by decide +kernel
theorem dX13_bear_46 : decode cX13_bear 46 = .ok (.invokevirtual 154, 3) := by decide +kernel
theorem dX13_bear_49 : decode cX13_bear 49 = .ok (.ireturn, 1) := by decide +kernel
set_option maxRecDepth 20000 in
theorem ggX13_areTwo_X13_isBalcony : GoodIn wsX13_areTwo wsX13_isBalcony := goodIn_r _ [4, 5, 6, 3, 7] (by decide +kernel) (by decide +kernel)
set_option maxRecDepth 20000 in
theorem gX13_areTwo_X13_isBalcony : GoodIn wsX13_areTwo (va_wsS RX13 138 yX13_isBalcony wsX13_isBalcony) := goodIn_app (goodIn_of _ (by decide +kernel)) ggX13_areTwo_X13_isBalcony
theorem dX13_areTwo_0 : decode cX13_areTwo 0 = .ok (.iload_n 0, 1) := by decide +kernel
theorem dX13_areTwo_1 : decode cX13_areTwo 1 = .ok (.invokestatic 138, 3) := by decide +kernel
theorem dX13_areTwo_4 : decode cX13_areTwo 4 = .ok (.ifCond .eq 14, 3) := by decide +kernel
theorem dX13_areTwo_7 : decode cX13_areTwo 7 = .ok (.iload_n 1, 1) := by decide +kernel
theorem dX13_areTwo_8 : decode cX13_areTwo 8 = .ok (.invokestatic 138, 3) := by decide +kernel
theorem dX13_areTwo_11 : decode cX13_areTwo 11 = .ok (.ifCond .eq 7, 3) := by decide +kernel
theorem dX13_areTwo_14 : decode cX13_areTwo 14 = .ok (.iconst 1, 1) := by decide +kernel
theorem dX13_areTwo_15 : decode cX13_areTwo 15 = .ok (.goto 4, 3) := by decide +kernel
theorem dX13_areTwo_18 : decode cX13_areTwo 18 = .ok (.iconst 0, 1) := by decide +kernel
theorem dX13_areTwo_19 : decode cX13_areTwo 19 = .ok (.ireturn, 1) := by decide +kernel
set_option maxRecDepth 20000 in
theorem ggX13_isOne_X13_isBad : GoodIn wsX13_isOne wsX13_isBad := goodIn_r _ [5, 6, 7, 8, 9, 10, 11, 12, 13, 14, 15, 16, 17, 18, 19, 20, 21, 22, 23, 24, 25, 26, 27, 28, 29, 30, 31, 32, 33, 34] (by decide +kernel) (by decide +kernel)
set_option maxRecDepth 20000 in
theorem gX13_isOne_X13_isBad : GoodIn wsX13_isOne (wsV RX13 132 RX13 yX13_isBad wsX13_isBad) := goodIn_app (goodIn_of _ (by decide +kernel)) ggX13_isOne_X13_isBad
theorem dX13_isOne_0 : decode cX13_isOne 0 = .ok (.iload_n 1, 1) := by decide +kernel
theorem dX13_isOne_1 : decode cX13_isOne 1 = .ok (.iload_n 2, 1) := by decide +kernel
theorem dX13_isOne_2 : decode cX13_isOne 2 = .ok (.if_icmp .ne 16, 3) := by decide +kernel
theorem dX13_isOne_5 : decode cX13_isOne 5 = .ok (.aload_n 0, 1) := by decide +kernel
theorem dX13_isOne_6 : decode cX13_isOne 6 = .ok (.iconst 2, 1) := by decide +kernel
theorem dX13_isOne_7 : decode cX13_isOne 7 = .ok (.iload_n 1, 1) := by decide +kernel
theorem dX13_isOne_8 : decode cX13_isOne 8 = .ok (.invokevirtual 132, 3) := by decide +kernel
theorem dX13_isOne_11 : decode cX13_isOne 11 = .ok (.ifCond .eq 7, 3) := by decide +kernel
theorem dX13_isOne_14 : decode cX13_isOne 14 = .ok (.iconst 1, 1) := by decide +kernel
theorem dX13_isOne_15 : decode cX13_isOne 15 = .ok (.goto 4, 3) := by decide +kernel
theorem dX13_isOne_18 : decode cX13_isOne 18 = .ok (.iconst 0, 1) := by decide +kernel
theorem dX13_isOne_19 : decode cX13_isOne 19 = .ok (.ireturn, 1) := by decide +kernel
set_option maxRecDepth 20000 in
theorem ggX13_isRefusedHang_X13_isOne : GoodIn wsX13_isRefusedHang wsX13_isOne := goodIn_r _ [6, 7, 8, 9, 5, 10, 11, 12, 21, 22, 23, 24, 25, 26, 27, 28, 29, 30, 31, 32, 33, 34, 35, 36, 37, 38, 39, 40, 41, 42, 43, 44, 45, 46, 47] (by decide +kernel) (by decide +kernel)
set_option maxRecDepth 20000 in
theorem gX13_isRefusedHang_X13_isOne : GoodIn wsX13_isRefusedHang (wsV RX13 166 RX13 yX13_isOne wsX13_isOne) := goodIn_app (goodIn_of _ (by decide +kernel)) ggX13_isRefusedHang_X13_isOne
set_option maxRecDepth 20000 in
theorem ggX13_isRefusedHang_X13_lineBetween : GoodIn wsX13_isRefusedHang wsX13_lineBetween := goodIn_r _ [16, 1, 17, 18, 19, 5, 20, 21, 22, 23, 24, 25, 26, 27, 28, 29, 30, 31, 32, 33, 34, 35, 36, 37, 38, 39, 40, 41, 42, 43, 44, 45, 46, 47] (by decide +kernel) (by decide +kernel)
set_option maxRecDepth 20000 in
theorem gX13_isRefusedHang_X13_lineBetween : GoodIn wsX13_isRefusedHang (wsV RX13 116 RX13 yX13_lineBetween wsX13_lineBetween) := goodIn_app (goodIn_of _ (by decide +kernel)) ggX13_isRefusedHang_X13_lineBetween
set_option maxRecDepth 20000 in
theorem ggX13_isRefusedHang_X13_linePart : GoodIn wsX13_isRefusedHang wsX13_linePart := goodIn_r _ [20, 1, 21, 22, 23, 24, 25, 26, 27, 28, 29, 30, 31, 32, 33, 34, 35, 36, 37, 38, 39, 40, 41, 42, 43, 44, 45, 46, 47] (by decide +kernel) (by decide +kernel)
set_option maxRecDepth 20000 in
theorem gX13_isRefusedHang_X13_linePart : GoodIn wsX13_isRefusedHang (wsV RX13 108 RX13 yX13_linePart wsX13_linePart) := goodIn_app (goodIn_of _ (by decide +kernel)) ggX13_isRefusedHang_X13_linePart
set_option maxRecDepth 20000 in
theorem ggX13_isRefusedHang_X13_isBad : GoodIn wsX13_isRefusedHang wsX13_isBad := goodIn_r _ [10, 11, 12, 21, 22, 23, 24, 25, 26, 27, 28, 29, 30, 31, 32, 33, 34, 35, 36, 37, 38, 39, 40, 41, 42, 43, 44, 45, 46, 47] (by decide +kernel) (by decide +kernel)
set_option maxRecDepth 20000 in
theorem gX13_isRefusedHang_X13_isBad : GoodIn wsX13_isRefusedHang (wsV RX13 132 RX13 yX13_isBad wsX13_isBad) := goodIn_app (goodIn_of _ (by decide +kernel)) ggX13_isRefusedHang_X13_isBad
theorem dX13_isRefusedHang_0 : decode cX13_isRefusedHang 0 = .ok (.aload_n 0, 1) := by decide +kernel
theorem dX13_isRefusedHang_1 : decode cX13_isRefusedHang 1 = .ok (.iload_n 1, 1) := by decide +kernel
theorem dX13_isRefusedHang_2 : decode cX13_isRefusedHang 2 = .ok (.iload_n 2, 1) := by decide +kernel
theorem dX13_isRefusedHang_3 : decode cX13_isRefusedHang 3 = .ok (.invokevirtual 166, 3) := by decide +kernel
theorem dX13_isRefusedHang_6 : decode cX13_isRefusedHang 6 = .ok (.ifCond .eq 5, 3) := by decide +kernel
theorem dX13_isRefusedHang_9 : decode cX13_isRefusedHang 9 = .ok (.iconst 1, 1) := by decide +kernel
theorem dX13_isRefusedHang_10 : decode cX13_isRefusedHang 10 = .ok (.ireturn, 1) := by decide +kernel
theorem dX13_isRefusedHang_11 : decode cX13_isRefusedHang 11 = .ok (.aload_n 0, 1) := by decide +kernel
theorem dX13_isRefusedHang_12 : decode cX13_isRefusedHang 12 = .ok (.iload_n 1, 1) := by decide +kernel
theorem dX13_isRefusedHang_13 : decode cX13_isRefusedHang 13 = .ok (.iload_n 2, 1) := by decide +kernel
theorem dX13_isRefusedHang_14 : decode cX13_isRefusedHang 14 = .ok (.invokevirtual 116, 3) := by decide +kernel
theorem dX13_isRefusedHang_17 : decode cX13_isRefusedHang 17 = .ok (.ifCond .lt 20, 3) := by decide +kernel
theorem dX13_isRefusedHang_20 : decode cX13_isRefusedHang 20 = .ok (.aload_n 0, 1) := by decide +kernel
theorem dX13_isRefusedHang_21 : decode cX13_isRefusedHang 21 = .ok (.iconst 3, 1) := by decide +kernel
theorem dX13_isRefusedHang_22 : decode cX13_isRefusedHang 22 = .ok (.aload_n 0, 1) := by decide +kernel
theorem dX13_isRefusedHang_23 : decode cX13_isRefusedHang 23 = .ok (.aload_n 0, 1) := by decide +kernel
theorem dX13_isRefusedHang_24 : decode cX13_isRefusedHang 24 = .ok (.iload_n 1, 1) := by decide +kernel
theorem dX13_isRefusedHang_25 : decode cX13_isRefusedHang 25 = .ok (.iload_n 2, 1) := by decide +kernel
theorem dX13_isRefusedHang_26 : decode cX13_isRefusedHang 26 = .ok (.invokevirtual 116, 3) := by decide +kernel
theorem dX13_isRefusedHang_29 : decode cX13_isRefusedHang 29 = .ok (.iconst 2, 1) := by decide +kernel
theorem dX13_isRefusedHang_30 : decode cX13_isRefusedHang 30 = .ok (.invokevirtual 108, 3) := by decide +kernel
theorem dX13_isRefusedHang_33 : decode cX13_isRefusedHang 33 = .ok (.invokevirtual 132, 3) := by decide +kernel
theorem dX13_isRefusedHang_36 : decode cX13_isRefusedHang 36 = .ok (.ireturn, 1) := by decide +kernel
theorem dX13_isRefusedHang_37 : decode cX13_isRefusedHang 37 = .ok (.aload_n 0, 1) := by decide +kernel
theorem dX13_isRefusedHang_38 : decode cX13_isRefusedHang 38 = .ok (.getfield 7, 3) := by decide +kernel
theorem dX13_isRefusedHang_41 : decode cX13_isRefusedHang 41 = .ok (.iconst 0, 1) := by decide +kernel
theorem dX13_isRefusedHang_42 : decode cX13_isRefusedHang 42 = .ok (.iaload, 1) := by decide +kernel
theorem dX13_isRefusedHang_43 : decode cX13_isRefusedHang 43 = .ok (.bipush 6, 2) := by decide +kernel
theorem dX13_isRefusedHang_45 : decode cX13_isRefusedHang 45 = .ok (.if_icmp .ne 17, 3) := by decide +kernel
theorem dX13_isRefusedHang_48 : decode cX13_isRefusedHang 48 = .ok (.aload_n 0, 1) := by decide +kernel
theorem dX13_isRefusedHang_49 : decode cX13_isRefusedHang 49 = .ok (.iconst 1, 1) := by decide +kernel
theorem dX13_isRefusedHang_50 : decode cX13_isRefusedHang 50 = .ok (.bipush 6, 2) := by decide +kernel
theorem dX13_isRefusedHang_52 : decode cX13_isRefusedHang 52 = .ok (.invokevirtual 132, 3) := by decide +kernel
theorem dX13_isRefusedHang_55 : decode cX13_isRefusedHang 55 = .ok (.ifCond .eq 7, 3) := by decide +kernel
theorem dX13_isRefusedHang_58 : decode cX13_isRefusedHang 58 = .ok (.iconst 1, 1) := by decide +kernel
theorem dX13_isRefusedHang_59 : decode cX13_isRefusedHang 59 = .ok (.goto 4, 3) := by decide +kernel
theorem dX13_isRefusedHang_62 : decode cX13_isRefusedHang 62 = .ok (.iconst 0, 1) := by decide +kernel
theorem dX13_isRefusedHang_63 : decode cX13_isRefusedHang 63 = .ok (.ireturn, 1) := by decide +kernel
theorem dX13_hangs_0 : decode cX13_hangs 0 = .ok (.aload_n 0, 1) := by decide +kernel
theorem dX13_hangs_1 : decode cX13_hangs 1 = .ok (.getfield 7, 3) := by decide +kernel
theorem dX13_hangs_4 : decode cX13_hangs 4 = .ok (.iconst 0, 1) := by decide +kernel
theorem dX13_hangs_5 : decode cX13_hangs 5 = .ok (.iaload, 1) := by decide +kernel
theorem dX13_hangs_6 : decode cX13_hangs 6 = .ok (.istore 4, 2) := by decide +kernel
theorem dX13_hangs_8 : decode cX13_hangs 8 = .ok (.aload_n 0, 1) := by decide +kernel
theorem dX13_hangs_9 : decode cX13_hangs 9 = .ok (.getfield 7, 3) := by decide +kernel
theorem dX13_hangs_12 : decode cX13_hangs 12 = .ok (.sipush 190, 3) := by decide +kernel
theorem dX13_hangs_15 : decode cX13_hangs 15 = .ok (.iconst 3, 1) := by decide +kernel
theorem dX13_hangs_16 : decode cX13_hangs 16 = .ok (.iload 4, 2) := by decide +kernel
theorem dX13_hangs_18 : decode cX13_hangs 18 = .ok (.imul, 1) := by decide +kernel
theorem dX13_hangs_19 : decode cX13_hangs 19 = .ok (.iadd, 1) := by decide +kernel
theorem dX13_hangs_20 : decode cX13_hangs 20 = .ok (.iload_n 1, 1) := by decide +kernel
theorem dX13_hangs_21 : decode cX13_hangs 21 = .ok (.iload_n 2, 1) := by decide +kernel
theorem dX13_hangs_22 : decode cX13_hangs 22 = .ok (.if_icmp .ge 7, 3) := by decide +kernel
theorem dX13_hangs_25 : decode cX13_hangs 25 = .ok (.iload_n 1, 1) := by decide +kernel
theorem dX13_hangs_26 : decode cX13_hangs 26 = .ok (.goto 4, 3) := by decide +kernel
theorem dX13_hangs_29 : decode cX13_hangs 29 = .ok (.iload_n 2, 1) := by decide +kernel
theorem dX13_hangs_30 : decode cX13_hangs 30 = .ok (.iastore, 1) := by decide +kernel
theorem dX13_hangs_31 : decode cX13_hangs 31 = .ok (.aload_n 0, 1) := by decide +kernel
theorem dX13_hangs_32 : decode cX13_hangs 32 = .ok (.getfield 7, 3) := by decide +kernel
theorem dX13_hangs_35 : decode cX13_hangs 35 = .ok (.sipush 190, 3) := by decide +kernel
theorem dX13_hangs_38 : decode cX13_hangs 38 = .ok (.iconst 3, 1) := by decide +kernel
theorem dX13_hangs_39 : decode cX13_hangs 39 = .ok (.iload 4, 2) := by decide +kernel
theorem dX13_hangs_41 : decode cX13_hangs 41 = .ok (.imul, 1) := by decide +kernel
theorem dX13_hangs_42 : decode cX13_hangs 42 = .ok (.iadd, 1) := by decide +kernel
theorem dX13_hangs_43 : decode cX13_hangs 43 = .ok (.iconst 1, 1) := by decide +kernel
theorem dX13_hangs_44 : decode cX13_hangs 44 = .ok (.iadd, 1) := by decide +kernel
theorem dX13_hangs_45 : decode cX13_hangs 45 = .ok (.iload_n 1, 1) := by decide +kernel
theorem dX13_hangs_46 : decode cX13_hangs 46 = .ok (.iload_n 2, 1) := by decide +kernel
theorem dX13_hangs_47 : decode cX13_hangs 47 = .ok (.if_icmp .ge 7, 3) := by decide +kernel
theorem dX13_hangs_50 : decode cX13_hangs 50 = .ok (.iload_n 2, 1) := by decide +kernel
theorem dX13_hangs_51 : decode cX13_hangs 51 = .ok (.goto 4, 3) := by decide +kernel
theorem dX13_hangs_54 : decode cX13_hangs 54 = .ok (.iload_n 1, 1) := by decide +kernel
theorem dX13_hangs_55 : decode cX13_hangs 55 = .ok (.iastore, 1) := by decide +kernel
theorem dX13_hangs_56 : decode cX13_hangs 56 = .ok (.aload_n 0, 1) := by decide +kernel
theorem dX13_hangs_57 : decode cX13_hangs 57 = .ok (.getfield 7, 3) := by decide +kernel
theorem dX13_hangs_60 : decode cX13_hangs 60 = .ok (.sipush 190, 3) := by decide +kernel
theorem dX13_hangs_63 : decode cX13_hangs 63 = .ok (.iconst 3, 1) := by decide +kernel
theorem dX13_hangs_64 : decode cX13_hangs 64 = .ok (.iload 4, 2) := by decide +kernel
theorem dX13_hangs_66 : decode cX13_hangs 66 = .ok (.imul, 1) := by decide +kernel
theorem dX13_hangs_67 : decode cX13_hangs 67 = .ok (.iadd, 1) := by decide +kernel
theorem dX13_hangs_68 : decode cX13_hangs 68 = .ok (.iconst 2, 1) := by decide +kernel
theorem dX13_hangs_69 : decode cX13_hangs 69 = .ok (.iadd, 1) := by decide +kernel
theorem dX13_hangs_70 : decode cX13_hangs 70 = .ok (.iload_n 3, 1) := by decide +kernel
theorem dX13_hangs_71 : decode cX13_hangs 71 = .ok (.iastore, 1) := by decide +kernel
theorem dX13_hangs_72 : decode cX13_hangs 72 = .ok (.aload_n 0, 1) := by decide +kernel
theorem dX13_hangs_73 : decode cX13_hangs 73 = .ok (.getfield 7, 3) := by decide +kernel
theorem dX13_hangs_76 : decode cX13_hangs 76 = .ok (.iconst 0, 1) := by decide +kernel
theorem dX13_hangs_77 : decode cX13_hangs 77 = .ok (.dup2, 1) := by decide +kernel
theorem dX13_hangs_78 : decode cX13_hangs 78 = .ok (.iaload, 1) := by decide +kernel
theorem dX13_hangs_79 : decode cX13_hangs 79 = .ok (.iconst 1, 1) := by decide +kernel
theorem dX13_hangs_80 : decode cX13_hangs 80 = .ok (.iadd, 1) := by decide +kernel
theorem dX13_hangs_81 : decode cX13_hangs 81 = .ok (.iastore, 1) := by decide +kernel
theorem dX13_hangs_82 : decode cX13_hangs 82 = .ok (.aload_n 0, 1) := by decide +kernel
theorem dX13_hangs_83 : decode cX13_hangs 83 = .ok (.getfield 7, 3) := by decide +kernel
theorem dX13_hangs_86 : decode cX13_hangs 86 = .ok (.bipush 7, 2) := by decide +kernel
theorem dX13_hangs_88 : decode cX13_hangs 88 = .ok (.dup2, 1) := by decide +kernel
theorem dX13_hangs_89 : decode cX13_hangs 89 = .ok (.iaload, 1) := by decide +kernel
theorem dX13_hangs_90 : decode cX13_hangs 90 = .ok (.iconst 1, 1) := by decide +kernel
theorem dX13_hangs_91 : decode cX13_hangs 91 = .ok (.iadd, 1) := by decide +kernel
theorem dX13_hangs_92 : decode cX13_hangs 92 = .ok (.iastore, 1) := by decide +kernel
theorem dX13_hangs_93 : decode cX13_hangs 93 = .ok (.iload 4, 2) := by decide +kernel
theorem dX13_hangs_95 : decode cX13_hangs 95 = .ok (.ireturn, 1) := by decide +kernel
set_option maxRecDepth 20000 in
theorem ggX13_hang_X13_begins : GoodIn wsX13_hang wsX13_begins := goodIn_r _ [5, 6, 7, 8, 9, 4, 10, 62, 63, 64, 65, 66, 67, 68, 69, 70, 71, 72, 73, 74, 75, 76, 77, 78, 79, 80, 81, 82, 83, 84, 85, 86, 87, 88] (by decide +kernel) (by decide +kernel)
set_option maxRecDepth 20000 in
theorem gX13_hang_X13_begins : GoodIn wsX13_hang (wsV RX13 135 RX13 yX13_begins wsX13_begins) := goodIn_app (goodIn_of _ (by decide +kernel)) ggX13_hang_X13_begins
set_option maxRecDepth 20000 in
theorem ggX13_hang_X13_areTwo : GoodIn wsX13_hang wsX13_areTwo := goodIn_r _ [13, 14, 15, 4, 16, 17, 18, 19] (by decide +kernel) (by decide +kernel)
set_option maxRecDepth 20000 in
theorem gX13_hang_X13_areTwo : GoodIn wsX13_hang (va_wsS RX13 169 yX13_areTwo wsX13_areTwo) := goodIn_app (goodIn_of _ (by decide +kernel)) ggX13_hang_X13_areTwo
set_option maxRecDepth 20000 in
theorem ggX13_hang_X13_areMany : GoodIn wsX13_hang wsX13_areMany := goodIn_r _ [22, 17, 18, 4, 19] (by decide +kernel) (by decide +kernel)
set_option maxRecDepth 20000 in
theorem gX13_hang_X13_areMany : GoodIn wsX13_hang (va_wsS RX13 142 yX13_areMany wsX13_areMany) := goodIn_app (goodIn_of _ (by decide +kernel)) ggX13_hang_X13_areMany
set_option maxRecDepth 20000 in
theorem ggX13_hang_X13_isRefusedHang : GoodIn wsX13_hang wsX13_isRefusedHang := goodIn_r _ [26, 6, 27, 28, 29, 4, 30, 31, 32, 33, 34, 35, 36, 37, 38, 39, 40, 41, 42, 43, 44, 62, 63, 64, 65, 66, 67, 68, 69, 70, 71, 72, 73, 74, 75, 76, 77, 78, 79, 80, 81, 82, 83, 84, 85, 86, 87, 88] (by decide +kernel) (by decide +kernel)
set_option maxRecDepth 20000 in
theorem gX13_hang_X13_isRefusedHang : GoodIn wsX13_hang (wsV RX13 172 RX13 yX13_isRefusedHang wsX13_isRefusedHang) := goodIn_app (goodIn_of _ (by decide +kernel)) ggX13_hang_X13_isRefusedHang
set_option maxRecDepth 20000 in
theorem ggX13_hang_X13_refused : GoodIn wsX13_hang wsX13_refused := goodIn_r _ [48, 35, 49, 36, 50, 51, 62, 63, 64, 65, 66, 67, 68, 69, 70, 71, 72, 73, 74, 75, 76, 77, 78, 79, 80, 81, 82, 83, 84, 85, 86, 87, 88] (by decide +kernel) (by decide +kernel)
set_option maxRecDepth 20000 in
theorem gX13_hang_X13_refused : GoodIn wsX13_hang (wsV RX13 148 RX13 yX13_refused wsX13_refused) := goodIn_app (goodIn_of _ (by decide +kernel)) ggX13_hang_X13_refused
set_option maxRecDepth 20000 in
theorem ggX13_hang_X13_hangs : GoodIn wsX13_hang wsX13_hangs := goodIn_r _ [55, 6, 62, 63, 64, 65, 66, 67, 68, 69, 70, 71, 72, 73, 74, 75, 76, 77, 78, 79, 80, 81, 82, 83, 84, 85, 86, 87, 88] (by decide +kernel) (by decide +kernel)
set_option maxRecDepth 20000 in
theorem gX13_hang_X13_hangs : GoodIn wsX13_hang (wsV RX13 175 RX13 yX13_hangs wsX13_hangs) := goodIn_app (goodIn_of _ (by decide +kernel)) ggX13_hang_X13_hangs
set_option maxRecDepth 20000 in
theorem ggX13_hang_X13_keeps : GoodIn wsX13_hang wsX13_keeps := goodIn_r _ [59, 60, 61, 7, 8, 9, 4, 10, 62, 63, 64, 65, 66, 67, 68, 69, 70, 71, 72, 73, 74, 75, 76, 77, 78, 79, 80, 81, 82, 83, 84, 85, 86, 87, 88] (by decide +kernel) (by decide +kernel)
set_option maxRecDepth 20000 in
theorem gX13_hang_X13_keeps : GoodIn wsX13_hang (wsV RX13 154 RX13 yX13_keeps wsX13_keeps) := goodIn_app (goodIn_of _ (by decide +kernel)) ggX13_hang_X13_keeps
theorem dX13_hang_0 : decode cX13_hang 0 = .ok (.aload_n 0, 1) := by decide +kernel
theorem dX13_hang_1 : decode cX13_hang 1 = .ok (.invokevirtual 135, 3) := by decide +kernel
theorem dX13_hang_4 : decode cX13_hang 4 = .ok (.iload_n 1, 1) := by decide +kernel
theorem dX13_hang_5 : decode cX13_hang 5 = .ok (.iload_n 2, 1) := by decide +kernel
theorem dX13_hang_6 : decode cX13_hang 6 = .ok (.invokestatic 169, 3) := by decide +kernel
theorem dX13_hang_9 : decode cX13_hang 9 = .ok (.ifCond .ne 5, 3) := by decide +kernel
theorem dX13_hang_12 : decode cX13_hang 12 = .ok (.iconst (-1), 1) := by decide +kernel
theorem dX13_hang_13 : decode cX13_hang 13 = .ok (.ireturn, 1) := by decide +kernel
theorem dX13_hang_14 : decode cX13_hang 14 = .ok (.iload_n 3, 1) := by decide +kernel
theorem dX13_hang_15 : decode cX13_hang 15 = .ok (.invokestatic 142, 3) := by decide +kernel
theorem dX13_hang_18 : decode cX13_hang 18 = .ok (.ifCond .ne 6, 3) := by decide +kernel
theorem dX13_hang_21 : decode cX13_hang 21 = .ok (.bipush (-2), 2) := by decide +kernel
theorem dX13_hang_23 : decode cX13_hang 23 = .ok (.ireturn, 1) := by decide +kernel
theorem dX13_hang_24 : decode cX13_hang 24 = .ok (.aload_n 0, 1) := by decide +kernel
theorem dX13_hang_25 : decode cX13_hang 25 = .ok (.iload_n 1, 1) := by decide +kernel
theorem dX13_hang_26 : decode cX13_hang 26 = .ok (.iload_n 2, 1) := by decide +kernel
theorem dX13_hang_27 : decode cX13_hang 27 = .ok (.invokevirtual 172, 3) := by decide +kernel
theorem dX13_hang_30 : decode cX13_hang 30 = .ok (.ifCond .eq 10, 3) := by decide +kernel
theorem dX13_hang_33 : decode cX13_hang 33 = .ok (.aload_n 0, 1) := by decide +kernel
theorem dX13_hang_34 : decode cX13_hang 34 = .ok (.invokevirtual 148, 3) := by decide +kernel
theorem dX13_hang_37 : decode cX13_hang 37 = .ok (.goto 14, 3) := by decide +kernel
theorem dX13_hang_40 : decode cX13_hang 40 = .ok (.aload_n 0, 1) := by decide +kernel
theorem dX13_hang_41 : decode cX13_hang 41 = .ok (.aload_n 0, 1) := by decide +kernel
theorem dX13_hang_42 : decode cX13_hang 42 = .ok (.iload_n 1, 1) := by decide +kernel
theorem dX13_hang_43 : decode cX13_hang 43 = .ok (.iload_n 2, 1) := by decide +kernel
theorem dX13_hang_44 : decode cX13_hang 44 = .ok (.iload_n 3, 1) := by decide +kernel
theorem dX13_hang_45 : decode cX13_hang 45 = .ok (.invokevirtual 175, 3) := by decide +kernel
theorem dX13_hang_48 : decode cX13_hang 48 = .ok (.invokevirtual 154, 3) := by decide +kernel
theorem dX13_hang_51 : decode cX13_hang 51 = .ok (.ireturn, 1) := by decide +kernel
set_option maxRecDepth 20000 in
theorem ggX13_isQuarrel_X13_isOne : GoodIn wsX13_isQuarrel wsX13_isOne := goodIn_r _ [5, 6, 7, 8, 4, 9, 10, 11, 36, 37, 38, 39, 40, 41, 42, 43, 44, 45, 46, 47, 48, 49, 50, 51, 52, 53, 54, 55, 56, 57, 58, 59, 60, 61, 62] (by decide +kernel) (by decide +kernel)
set_option maxRecDepth 20000 in
theorem gX13_isQuarrel_X13_isOne : GoodIn wsX13_isQuarrel (wsV RX13 166 RX13 yX13_isOne wsX13_isOne) := goodIn_app (goodIn_of _ (by decide +kernel)) ggX13_isQuarrel_X13_isOne
set_option maxRecDepth 20000 in
theorem ggX13_isQuarrel_X13_areFeuding : GoodIn wsX13_isQuarrel wsX13_areFeuding := goodIn_r _ [15, 16, 17, 18, 4, 19, 20, 21, 22, 23, 24, 25, 26, 27, 28, 29, 30, 31, 32, 33, 34, 35, 36, 37, 38, 39, 40, 41, 42, 43, 44, 45, 46, 47, 48, 49, 50, 51, 52, 53, 54, 55, 56, 57, 58, 59, 60, 61, 62] (by decide +kernel) (by decide +kernel)
set_option maxRecDepth 20000 in
theorem gX13_isQuarrel_X13_areFeuding : GoodIn wsX13_isQuarrel (wsV RX13 122 RX13 yX13_areFeuding wsX13_areFeuding) := goodIn_app (goodIn_of _ (by decide +kernel)) ggX13_isQuarrel_X13_areFeuding
set_option maxRecDepth 20000 in
theorem ggX13_isQuarrel_X13_isBad : GoodIn wsX13_isQuarrel wsX13_isBad := goodIn_r _ [9, 10, 11, 36, 37, 38, 39, 40, 41, 42, 43, 44, 45, 46, 47, 48, 49, 50, 51, 52, 53, 54, 55, 56, 57, 58, 59, 60, 61, 62] (by decide +kernel) (by decide +kernel)
set_option maxRecDepth 20000 in
theorem gX13_isQuarrel_X13_isBad : GoodIn wsX13_isQuarrel (wsV RX13 132 RX13 yX13_isBad wsX13_isBad) := goodIn_app (goodIn_of _ (by decide +kernel)) ggX13_isQuarrel_X13_isBad
theorem dX13_isQuarrel_0 : decode cX13_isQuarrel 0 = .ok (.aload_n 0, 1) := by decide +kernel
theorem dX13_isQuarrel_1 : decode cX13_isQuarrel 1 = .ok (.iload_n 1, 1) := by decide +kernel
theorem dX13_isQuarrel_2 : decode cX13_isQuarrel 2 = .ok (.iload_n 2, 1) := by decide +kernel
theorem dX13_isQuarrel_3 : decode cX13_isQuarrel 3 = .ok (.invokevirtual 166, 3) := by decide +kernel
theorem dX13_isQuarrel_6 : decode cX13_isQuarrel 6 = .ok (.ifCond .ne 30, 3) := by decide +kernel
theorem dX13_isQuarrel_9 : decode cX13_isQuarrel 9 = .ok (.aload_n 0, 1) := by decide +kernel
theorem dX13_isQuarrel_10 : decode cX13_isQuarrel 10 = .ok (.iload_n 1, 1) := by decide +kernel
theorem dX13_isQuarrel_11 : decode cX13_isQuarrel 11 = .ok (.iload_n 2, 1) := by decide +kernel
theorem dX13_isQuarrel_12 : decode cX13_isQuarrel 12 = .ok (.invokevirtual 122, 3) := by decide +kernel
theorem dX13_isQuarrel_15 : decode cX13_isQuarrel 15 = .ok (.ifCond .eq 25, 3) := by decide +kernel
theorem dX13_isQuarrel_18 : decode cX13_isQuarrel 18 = .ok (.aload_n 0, 1) := by decide +kernel
theorem dX13_isQuarrel_19 : decode cX13_isQuarrel 19 = .ok (.iconst 5, 1) := by decide +kernel
theorem dX13_isQuarrel_20 : decode cX13_isQuarrel 20 = .ok (.iload_n 1, 1) := by decide +kernel
theorem dX13_isQuarrel_21 : decode cX13_isQuarrel 21 = .ok (.iload_n 2, 1) := by decide +kernel
theorem dX13_isQuarrel_22 : decode cX13_isQuarrel 22 = .ok (.if_icmp .le 7, 3) := by decide +kernel
theorem dX13_isQuarrel_25 : decode cX13_isQuarrel 25 = .ok (.iload_n 1, 1) := by decide +kernel
theorem dX13_isQuarrel_26 : decode cX13_isQuarrel 26 = .ok (.goto 4, 3) := by decide +kernel
theorem dX13_isQuarrel_29 : decode cX13_isQuarrel 29 = .ok (.iload_n 2, 1) := by decide +kernel
theorem dX13_isQuarrel_30 : decode cX13_isQuarrel 30 = .ok (.invokevirtual 132, 3) := by decide +kernel
theorem dX13_isQuarrel_33 : decode cX13_isQuarrel 33 = .ok (.ifCond .eq 7, 3) := by decide +kernel
theorem dX13_isQuarrel_36 : decode cX13_isQuarrel 36 = .ok (.iconst 1, 1) := by decide +kernel
theorem dX13_isQuarrel_37 : decode cX13_isQuarrel 37 = .ok (.goto 4, 3) := by decide +kernel
theorem dX13_isQuarrel_40 : decode cX13_isQuarrel 40 = .ok (.iconst 0, 1) := by decide +kernel
theorem dX13_isQuarrel_41 : decode cX13_isQuarrel 41 = .ok (.ireturn, 1) := by decide +kernel
theorem dX13_greetings_0 : decode cX13_greetings 0 = .ok (.aload_n 0, 1) := by decide +kernel
theorem dX13_greetings_1 : decode cX13_greetings 1 = .ok (.getfield 7, 3) := by decide +kernel
theorem dX13_greetings_4 : decode cX13_greetings 4 = .ok (.bipush 46, 2) := by decide +kernel
theorem dX13_greetings_6 : decode cX13_greetings 6 = .ok (.bipush 12, 2) := by decide +kernel
theorem dX13_greetings_8 : decode cX13_greetings 8 = .ok (.iload_n 1, 1) := by decide +kernel
theorem dX13_greetings_9 : decode cX13_greetings 9 = .ok (.imul, 1) := by decide +kernel
theorem dX13_greetings_10 : decode cX13_greetings 10 = .ok (.iadd, 1) := by decide +kernel
theorem dX13_greetings_11 : decode cX13_greetings 11 = .ok (.iload_n 2, 1) := by decide +kernel
theorem dX13_greetings_12 : decode cX13_greetings 12 = .ok (.iadd, 1) := by decide +kernel
theorem dX13_greetings_13 : decode cX13_greetings 13 = .ok (.iaload, 1) := by decide +kernel
theorem dX13_greetings_14 : decode cX13_greetings 14 = .ok (.ireturn, 1) := by decide +kernel
set_option maxRecDepth 20000 in
theorem ggX13_isRefusedGreet_X13_isQuarrel : GoodIn wsX13_isRefusedGreet wsX13_isQuarrel := goodIn_r _ [6, 7, 8, 9, 5, 10, 11, 12, 13, 14, 15, 16, 17, 18, 19, 20, 21, 22, 23, 24, 1, 25, 26, 27, 28, 29, 30, 31, 32, 33, 34, 35, 36, 37, 38, 39, 44, 45, 46, 47, 48, 49, 50, 51, 52, 53, 54, 55, 56, 57, 58, 59, 60, 61, 62, 63, 64, 65, 66, 67, 68, 69, 70] (by decide +kernel) (by decide +kernel)
set_option maxRecDepth 20000 in
theorem gX13_isRefusedGreet_X13_isQuarrel : GoodIn wsX13_isRefusedGreet (wsV RX13 179 RX13 yX13_isQuarrel wsX13_isQuarrel) := goodIn_app (goodIn_of _ (by decide +kernel)) ggX13_isRefusedGreet_X13_isQuarrel
set_option maxRecDepth 20000 in
theorem ggX13_isRefusedGreet_X13_greetings : GoodIn wsX13_isRefusedGreet wsX13_greetings := goodIn_r _ [43, 1, 44, 45, 46, 47, 48, 49, 50, 51, 52, 53, 54, 55, 56, 57, 58, 59, 60, 61, 62, 63, 64, 65, 66, 67, 68, 69, 70] (by decide +kernel) (by decide +kernel)
set_option maxRecDepth 20000 in
theorem gX13_isRefusedGreet_X13_greetings : GoodIn wsX13_isRefusedGreet (wsV RX13 182 RX13 yX13_greetings wsX13_greetings) := goodIn_app (goodIn_of _ (by decide +kernel)) ggX13_isRefusedGreet_X13_greetings
set_option maxRecDepth 20000 in
theorem ggX13_isRefusedGreet_X13_isBad : GoodIn wsX13_isRefusedGreet wsX13_isBad := goodIn_r _ [14, 15, 16, 44, 45, 46, 47, 48, 49, 50, 51, 52, 53, 54, 55, 56, 57, 58, 59, 60, 61, 62, 63, 64, 65, 66, 67, 68, 69, 70] (by decide +kernel) (by decide +kernel)
set_option maxRecDepth 20000 in
theorem gX13_isRefusedGreet_X13_isBad : GoodIn wsX13_isRefusedGreet (wsV RX13 132 RX13 yX13_isBad wsX13_isBad) := goodIn_app (goodIn_of _ (by decide +kernel)) ggX13_isRefusedGreet_X13_isBad
theorem dX13_isRefusedGreet_0 : decode cX13_isRefusedGreet 0 = .ok (.aload_n 0, 1) := by decide +kernel
theorem dX13_isRefusedGreet_1 : decode cX13_isRefusedGreet 1 = .ok (.iload_n 1, 1) := by decide +kernel
theorem dX13_isRefusedGreet_2 : decode cX13_isRefusedGreet 2 = .ok (.iload_n 2, 1) := by decide +kernel
theorem dX13_isRefusedGreet_3 : decode cX13_isRefusedGreet 3 = .ok (.invokevirtual 179, 3) := by decide +kernel
theorem dX13_isRefusedGreet_6 : decode cX13_isRefusedGreet 6 = .ok (.ifCond .ne 35, 3) := by decide +kernel
theorem dX13_isRefusedGreet_9 : decode cX13_isRefusedGreet 9 = .ok (.aload_n 0, 1) := by decide +kernel
theorem dX13_isRefusedGreet_10 : decode cX13_isRefusedGreet 10 = .ok (.getfield 7, 3) := by decide +kernel
theorem dX13_isRefusedGreet_13 : decode cX13_isRefusedGreet 13 = .ok (.bipush 34, 2) := by decide +kernel
theorem dX13_isRefusedGreet_15 : decode cX13_isRefusedGreet 15 = .ok (.iload_n 1, 1) := by decide +kernel
theorem dX13_isRefusedGreet_16 : decode cX13_isRefusedGreet 16 = .ok (.iadd, 1) := by decide +kernel
theorem dX13_isRefusedGreet_17 : decode cX13_isRefusedGreet 17 = .ok (.iaload, 1) := by decide +kernel
theorem dX13_isRefusedGreet_18 : decode cX13_isRefusedGreet 18 = .ok (.iload_n 2, 1) := by decide +kernel
theorem dX13_isRefusedGreet_19 : decode cX13_isRefusedGreet 19 = .ok (.ishr, 1) := by decide +kernel
theorem dX13_isRefusedGreet_20 : decode cX13_isRefusedGreet 20 = .ok (.iconst 1, 1) := by decide +kernel
theorem dX13_isRefusedGreet_21 : decode cX13_isRefusedGreet 21 = .ok (.iand, 1) := by decide +kernel
theorem dX13_isRefusedGreet_22 : decode cX13_isRefusedGreet 22 = .ok (.iconst 1, 1) := by decide +kernel
theorem dX13_isRefusedGreet_23 : decode cX13_isRefusedGreet 23 = .ok (.if_icmp .ne 22, 3) := by decide +kernel
theorem dX13_isRefusedGreet_26 : decode cX13_isRefusedGreet 26 = .ok (.aload_n 0, 1) := by decide +kernel
theorem dX13_isRefusedGreet_27 : decode cX13_isRefusedGreet 27 = .ok (.bipush 7, 2) := by decide +kernel
theorem dX13_isRefusedGreet_29 : decode cX13_isRefusedGreet 29 = .ok (.aload_n 0, 1) := by decide +kernel
theorem dX13_isRefusedGreet_30 : decode cX13_isRefusedGreet 30 = .ok (.iload_n 1, 1) := by decide +kernel
theorem dX13_isRefusedGreet_31 : decode cX13_isRefusedGreet 31 = .ok (.iload_n 2, 1) := by decide +kernel
theorem dX13_isRefusedGreet_32 : decode cX13_isRefusedGreet 32 = .ok (.invokevirtual 182, 3) := by decide +kernel
theorem dX13_isRefusedGreet_35 : decode cX13_isRefusedGreet 35 = .ok (.invokevirtual 132, 3) := by decide +kernel
theorem dX13_isRefusedGreet_38 : decode cX13_isRefusedGreet 38 = .ok (.ifCond .eq 7, 3) := by decide +kernel
theorem dX13_isRefusedGreet_41 : decode cX13_isRefusedGreet 41 = .ok (.iconst 1, 1) := by decide +kernel
theorem dX13_isRefusedGreet_42 : decode cX13_isRefusedGreet 42 = .ok (.goto 4, 3) := by decide +kernel
theorem dX13_isRefusedGreet_45 : decode cX13_isRefusedGreet 45 = .ok (.iconst 0, 1) := by decide +kernel
theorem dX13_isRefusedGreet_46 : decode cX13_isRefusedGreet 46 = .ok (.ireturn, 1) := by decide +kernel
set_option maxRecDepth 20000 in
theorem ggX13_greets_X13_greetings : GoodIn wsX13_greets wsX13_greetings := goodIn_r _ [6, 1, 7, 8, 9, 10, 11, 12, 13, 14, 15, 16, 17, 18, 19, 20, 21, 22, 23, 24, 25, 26, 27, 28, 29, 30, 31, 32, 33] (by decide +kernel) (by decide +kernel)
set_option maxRecDepth 20000 in
theorem gX13_greets_X13_greetings : GoodIn wsX13_greets (wsV RX13 182 RX13 yX13_greetings wsX13_greetings) := goodIn_app (goodIn_of _ (by decide +kernel)) ggX13_greets_X13_greetings
theorem dX13_greets_0 : decode cX13_greets 0 = .ok (.aload_n 0, 1) := by decide +kernel
theorem dX13_greets_1 : decode cX13_greets 1 = .ok (.getfield 7, 3) := by decide +kernel
theorem dX13_greets_4 : decode cX13_greets 4 = .ok (.bipush 46, 2) := by decide +kernel
theorem dX13_greets_6 : decode cX13_greets 6 = .ok (.bipush 12, 2) := by decide +kernel
theorem dX13_greets_8 : decode cX13_greets 8 = .ok (.iload_n 1, 1) := by decide +kernel
theorem dX13_greets_9 : decode cX13_greets 9 = .ok (.imul, 1) := by decide +kernel
theorem dX13_greets_10 : decode cX13_greets 10 = .ok (.iadd, 1) := by decide +kernel
theorem dX13_greets_11 : decode cX13_greets 11 = .ok (.iload_n 2, 1) := by decide +kernel
theorem dX13_greets_12 : decode cX13_greets 12 = .ok (.iadd, 1) := by decide +kernel
theorem dX13_greets_13 : decode cX13_greets 13 = .ok (.dup2, 1) := by decide +kernel
theorem dX13_greets_14 : decode cX13_greets 14 = .ok (.iaload, 1) := by decide +kernel
theorem dX13_greets_15 : decode cX13_greets 15 = .ok (.iconst 1, 1) := by decide +kernel
theorem dX13_greets_16 : decode cX13_greets 16 = .ok (.iadd, 1) := by decide +kernel
theorem dX13_greets_17 : decode cX13_greets 17 = .ok (.iastore, 1) := by decide +kernel
theorem dX13_greets_18 : decode cX13_greets 18 = .ok (.aload_n 0, 1) := by decide +kernel
theorem dX13_greets_19 : decode cX13_greets 19 = .ok (.getfield 7, 3) := by decide +kernel
theorem dX13_greets_22 : decode cX13_greets 22 = .ok (.bipush 34, 2) := by decide +kernel
theorem dX13_greets_24 : decode cX13_greets 24 = .ok (.iload_n 1, 1) := by decide +kernel
theorem dX13_greets_25 : decode cX13_greets 25 = .ok (.iadd, 1) := by decide +kernel
theorem dX13_greets_26 : decode cX13_greets 26 = .ok (.dup2, 1) := by decide +kernel
theorem dX13_greets_27 : decode cX13_greets 27 = .ok (.iaload, 1) := by decide +kernel
theorem dX13_greets_28 : decode cX13_greets 28 = .ok (.iconst 1, 1) := by decide +kernel
theorem dX13_greets_29 : decode cX13_greets 29 = .ok (.iload_n 2, 1) := by decide +kernel
theorem dX13_greets_30 : decode cX13_greets 30 = .ok (.ishl, 1) := by decide +kernel
theorem dX13_greets_31 : decode cX13_greets 31 = .ok (.ior, 1) := by decide +kernel
theorem dX13_greets_32 : decode cX13_greets 32 = .ok (.iastore, 1) := by decide +kernel
theorem dX13_greets_33 : decode cX13_greets 33 = .ok (.aload_n 0, 1) := by decide +kernel
theorem dX13_greets_34 : decode cX13_greets 34 = .ok (.iload_n 1, 1) := by decide +kernel
theorem dX13_greets_35 : decode cX13_greets 35 = .ok (.iload_n 2, 1) := by decide +kernel
theorem dX13_greets_36 : decode cX13_greets 36 = .ok (.invokevirtual 182, 3) := by decide +kernel
theorem dX13_greets_39 : decode cX13_greets 39 = .ok (.ireturn, 1) := by decide +kernel
set_option maxRecDepth 20000 in
theorem ggX13_greet_X13_begins : GoodIn wsX13_greet wsX13_begins := goodIn_r _ [5, 6, 7, 8, 9, 4, 10, 82, 83, 84, 85, 86, 87, 88, 89, 90, 91, 92, 93, 94, 95, 96, 97, 98, 99, 100, 101, 102, 103, 104, 105, 106, 107, 108] (by decide +kernel) (by decide +kernel)
set_option maxRecDepth 20000 in
theorem gX13_greet_X13_begins : GoodIn wsX13_greet (wsV RX13 135 RX13 yX13_begins wsX13_begins) := goodIn_app (goodIn_of _ (by decide +kernel)) ggX13_greet_X13_begins
set_option maxRecDepth 20000 in
theorem ggX13_greet_X13_areTwo : GoodIn wsX13_greet wsX13_areTwo := goodIn_r _ [13, 14, 15, 4, 16, 17, 18, 19] (by decide +kernel) (by decide +kernel)
set_option maxRecDepth 20000 in
theorem gX13_greet_X13_areTwo : GoodIn wsX13_greet (va_wsS RX13 169 yX13_areTwo wsX13_areTwo) := goodIn_app (goodIn_of _ (by decide +kernel)) ggX13_greet_X13_areTwo
set_option maxRecDepth 20000 in
theorem ggX13_greet_X13_isRefusedGreet : GoodIn wsX13_greet wsX13_isRefusedGreet := goodIn_r _ [23, 6, 24, 25, 26, 4, 27, 28, 29, 30, 31, 32, 33, 34, 35, 36, 37, 38, 39, 40, 41, 42, 43, 44, 45, 46, 47, 48, 49, 50, 51, 52, 53, 54, 55, 56, 57, 58, 59, 60, 61, 62, 63, 64, 82, 83, 84, 85, 86, 87, 88, 89, 90, 91, 92, 93, 94, 95, 96, 97, 98, 99, 100, 101, 102, 103, 104, 105, 106, 107, 108] (by decide +kernel) (by decide +kernel)
set_option maxRecDepth 20000 in
theorem gX13_greet_X13_isRefusedGreet : GoodIn wsX13_greet (wsV RX13 185 RX13 yX13_isRefusedGreet wsX13_isRefusedGreet) := goodIn_app (goodIn_of _ (by decide +kernel)) ggX13_greet_X13_isRefusedGreet
set_option maxRecDepth 20000 in
theorem ggX13_greet_X13_refused : GoodIn wsX13_greet wsX13_refused := goodIn_r _ [68, 36, 69, 37, 70, 71, 82, 83, 84, 85, 86, 87, 88, 89, 90, 91, 92, 93, 94, 95, 96, 97, 98, 99, 100, 101, 102, 103, 104, 105, 106, 107, 108] (by decide +kernel) (by decide +kernel)
set_option maxRecDepth 20000 in
theorem gX13_greet_X13_refused : GoodIn wsX13_greet (wsV RX13 148 RX13 yX13_refused wsX13_refused) := goodIn_app (goodIn_of _ (by decide +kernel)) ggX13_greet_X13_refused
set_option maxRecDepth 20000 in
theorem ggX13_greet_X13_greets : GoodIn wsX13_greet wsX13_greets := goodIn_r _ [75, 6, 61, 62, 63, 4, 64, 82, 83, 84, 85, 86, 87, 88, 89, 90, 91, 92, 93, 94, 95, 96, 97, 98, 99, 100, 101, 102, 103, 104, 105, 106, 107, 108] (by decide +kernel) (by decide +kernel)
set_option maxRecDepth 20000 in
theorem gX13_greet_X13_greets : GoodIn wsX13_greet (wsV RX13 188 RX13 yX13_greets wsX13_greets) := goodIn_app (goodIn_of _ (by decide +kernel)) ggX13_greet_X13_greets
set_option maxRecDepth 20000 in
theorem ggX13_greet_X13_keeps : GoodIn wsX13_greet wsX13_keeps := goodIn_r _ [79, 80, 81, 7, 8, 9, 4, 10, 82, 83, 84, 85, 86, 87, 88, 89, 90, 91, 92, 93, 94, 95, 96, 97, 98, 99, 100, 101, 102, 103, 104, 105, 106, 107, 108] (by decide +kernel) (by decide +kernel)
set_option maxRecDepth 20000 in
theorem gX13_greet_X13_keeps : GoodIn wsX13_greet (wsV RX13 154 RX13 yX13_keeps wsX13_keeps) := goodIn_app (goodIn_of _ (by decide +kernel)) ggX13_greet_X13_keeps
theorem dX13_greet_0 : decode cX13_greet 0 = .ok (.aload_n 0, 1) := by decide +kernel
theorem dX13_greet_1 : decode cX13_greet 1 = .ok (.invokevirtual 135, 3) := by decide +kernel
theorem dX13_greet_4 : decode cX13_greet 4 = .ok (.iload_n 1, 1) := by decide +kernel
theorem dX13_greet_5 : decode cX13_greet 5 = .ok (.iload_n 2, 1) := by decide +kernel
theorem dX13_greet_6 : decode cX13_greet 6 = .ok (.invokestatic 169, 3) := by decide +kernel
theorem dX13_greet_9 : decode cX13_greet 9 = .ok (.ifCond .ne 5, 3) := by decide +kernel
theorem dX13_greet_12 : decode cX13_greet 12 = .ok (.iconst (-1), 1) := by decide +kernel
theorem dX13_greet_13 : decode cX13_greet 13 = .ok (.ireturn, 1) := by decide +kernel
theorem dX13_greet_14 : decode cX13_greet 14 = .ok (.aload_n 0, 1) := by decide +kernel
theorem dX13_greet_15 : decode cX13_greet 15 = .ok (.iload_n 1, 1) := by decide +kernel
theorem dX13_greet_16 : decode cX13_greet 16 = .ok (.iload_n 2, 1) := by decide +kernel
theorem dX13_greet_17 : decode cX13_greet 17 = .ok (.invokevirtual 185, 3) := by decide +kernel
theorem dX13_greet_20 : decode cX13_greet 20 = .ok (.ifCond .eq 10, 3) := by decide +kernel
theorem dX13_greet_23 : decode cX13_greet 23 = .ok (.aload_n 0, 1) := by decide +kernel
theorem dX13_greet_24 : decode cX13_greet 24 = .ok (.invokevirtual 148, 3) := by decide +kernel
theorem dX13_greet_27 : decode cX13_greet 27 = .ok (.goto 13, 3) := by decide +kernel
theorem dX13_greet_30 : decode cX13_greet 30 = .ok (.aload_n 0, 1) := by decide +kernel
theorem dX13_greet_31 : decode cX13_greet 31 = .ok (.aload_n 0, 1) := by decide +kernel
theorem dX13_greet_32 : decode cX13_greet 32 = .ok (.iload_n 1, 1) := by decide +kernel
theorem dX13_greet_33 : decode cX13_greet 33 = .ok (.iload_n 2, 1) := by decide +kernel
theorem dX13_greet_34 : decode cX13_greet 34 = .ok (.invokevirtual 188, 3) := by decide +kernel
theorem dX13_greet_37 : decode cX13_greet 37 = .ok (.invokevirtual 154, 3) := by decide +kernel
theorem dX13_greet_40 : decode cX13_greet 40 = .ok (.ireturn, 1) := by decide +kernel
set_option maxRecDepth 20000 in
theorem ggX13_isRefusedGive_X13_isQuarrel : GoodIn wsX13_isRefusedGive wsX13_isQuarrel := goodIn_r _ [5, 6, 7, 8, 4, 9, 10, 11, 12, 13, 14, 15, 16, 17, 18, 19, 20, 21, 22, 23, 24, 25, 26, 27, 28, 29, 30, 31, 32, 33, 34, 35, 36, 37, 38, 39, 40, 41, 42, 43, 44, 45, 46, 47, 48, 49, 50, 51, 52, 53, 54, 55, 56, 57, 58, 59, 60, 61, 62, 63, 64, 65, 66] (by decide +kernel) (by decide +kernel)
set_option maxRecDepth 20000 in
theorem gX13_isRefusedGive_X13_isQuarrel : GoodIn wsX13_isRefusedGive (wsV RX13 179 RX13 yX13_isQuarrel wsX13_isQuarrel) := goodIn_app (goodIn_of _ (by decide +kernel)) ggX13_isRefusedGive_X13_isQuarrel
set_option maxRecDepth 20000 in
theorem ggX13_isRefusedGive_X13_plants : GoodIn wsX13_isRefusedGive wsX13_plants := goodIn_r _ [31, 24, 40, 41, 42, 43, 44, 45, 46, 47, 48, 49, 50, 51, 52, 53, 54, 55, 56, 57, 58, 59, 60, 61, 62, 63, 64, 65, 66] (by decide +kernel) (by decide +kernel)
set_option maxRecDepth 20000 in
theorem gX13_isRefusedGive_X13_plants : GoodIn wsX13_isRefusedGive (wsV RX13 104 RX13 yX13_plants wsX13_plants) := goodIn_app (goodIn_of _ (by decide +kernel)) ggX13_isRefusedGive_X13_plants
set_option maxRecDepth 20000 in
theorem ggX13_isRefusedGive_X13_isBad : GoodIn wsX13_isRefusedGive wsX13_isBad := goodIn_r _ [13, 14, 15, 40, 41, 42, 43, 44, 45, 46, 47, 48, 49, 50, 51, 52, 53, 54, 55, 56, 57, 58, 59, 60, 61, 62, 63, 64, 65, 66] (by decide +kernel) (by decide +kernel)
set_option maxRecDepth 20000 in
theorem gX13_isRefusedGive_X13_isBad : GoodIn wsX13_isRefusedGive (wsV RX13 132 RX13 yX13_isBad wsX13_isBad) := goodIn_app (goodIn_of _ (by decide +kernel)) ggX13_isRefusedGive_X13_isBad
theorem dX13_isRefusedGive_0 : decode cX13_isRefusedGive 0 = .ok (.aload_n 0, 1) := by decide +kernel
theorem dX13_isRefusedGive_1 : decode cX13_isRefusedGive 1 = .ok (.iload_n 1, 1) := by decide +kernel
theorem dX13_isRefusedGive_2 : decode cX13_isRefusedGive 2 = .ok (.iload_n 2, 1) := by decide +kernel
theorem dX13_isRefusedGive_3 : decode cX13_isRefusedGive 3 = .ok (.invokevirtual 179, 3) := by decide +kernel
theorem dX13_isRefusedGive_6 : decode cX13_isRefusedGive 6 = .ok (.ifCond .eq 5, 3) := by decide +kernel
theorem dX13_isRefusedGive_9 : decode cX13_isRefusedGive 9 = .ok (.iconst 1, 1) := by decide +kernel
theorem dX13_isRefusedGive_10 : decode cX13_isRefusedGive 10 = .ok (.ireturn, 1) := by decide +kernel
theorem dX13_isRefusedGive_11 : decode cX13_isRefusedGive 11 = .ok (.aload_n 0, 1) := by decide +kernel
theorem dX13_isRefusedGive_12 : decode cX13_isRefusedGive 12 = .ok (.iload_n 1, 1) := by decide +kernel
theorem dX13_isRefusedGive_13 : decode cX13_isRefusedGive 13 = .ok (.invokevirtual 104, 3) := by decide +kernel
theorem dX13_isRefusedGive_16 : decode cX13_isRefusedGive 16 = .ok (.iload_n 3, 1) := by decide +kernel
theorem dX13_isRefusedGive_17 : decode cX13_isRefusedGive 17 = .ok (.if_icmp .ge 15, 3) := by decide +kernel
theorem dX13_isRefusedGive_20 : decode cX13_isRefusedGive 20 = .ok (.aload_n 0, 1) := by decide +kernel
theorem dX13_isRefusedGive_21 : decode cX13_isRefusedGive 21 = .ok (.bipush 6, 2) := by decide +kernel
theorem dX13_isRefusedGive_23 : decode cX13_isRefusedGive 23 = .ok (.aload_n 0, 1) := by decide +kernel
theorem dX13_isRefusedGive_24 : decode cX13_isRefusedGive 24 = .ok (.iload_n 1, 1) := by decide +kernel
theorem dX13_isRefusedGive_25 : decode cX13_isRefusedGive 25 = .ok (.invokevirtual 104, 3) := by decide +kernel
theorem dX13_isRefusedGive_28 : decode cX13_isRefusedGive 28 = .ok (.invokevirtual 132, 3) := by decide +kernel
theorem dX13_isRefusedGive_31 : decode cX13_isRefusedGive 31 = .ok (.ireturn, 1) := by decide +kernel
theorem dX13_isRefusedGive_32 : decode cX13_isRefusedGive 32 = .ok (.aload_n 0, 1) := by decide +kernel
theorem dX13_isRefusedGive_33 : decode cX13_isRefusedGive 33 = .ok (.iload_n 2, 1) := by decide +kernel
theorem dX13_isRefusedGive_34 : decode cX13_isRefusedGive 34 = .ok (.invokevirtual 104, 3) := by decide +kernel
theorem dX13_isRefusedGive_37 : decode cX13_isRefusedGive 37 = .ok (.iload_n 3, 1) := by decide +kernel
theorem dX13_isRefusedGive_38 : decode cX13_isRefusedGive 38 = .ok (.iadd, 1) := by decide +kernel
theorem dX13_isRefusedGive_39 : decode cX13_isRefusedGive 39 = .ok (.bipush 9, 2) := by decide +kernel
theorem dX13_isRefusedGive_41 : decode cX13_isRefusedGive 41 = .ok (.if_icmp .le 20, 3) := by decide +kernel
theorem dX13_isRefusedGive_44 : decode cX13_isRefusedGive 44 = .ok (.aload_n 0, 1) := by decide +kernel
theorem dX13_isRefusedGive_45 : decode cX13_isRefusedGive 45 = .ok (.iconst 4, 1) := by decide +kernel
theorem dX13_isRefusedGive_46 : decode cX13_isRefusedGive 46 = .ok (.aload_n 0, 1) := by decide +kernel
theorem dX13_isRefusedGive_47 : decode cX13_isRefusedGive 47 = .ok (.iload_n 2, 1) := by decide +kernel
theorem dX13_isRefusedGive_48 : decode cX13_isRefusedGive 48 = .ok (.invokevirtual 104, 3) := by decide +kernel
theorem dX13_isRefusedGive_51 : decode cX13_isRefusedGive 51 = .ok (.invokevirtual 132, 3) := by decide +kernel
theorem dX13_isRefusedGive_54 : decode cX13_isRefusedGive 54 = .ok (.ifCond .eq 7, 3) := by decide +kernel
theorem dX13_isRefusedGive_57 : decode cX13_isRefusedGive 57 = .ok (.iconst 1, 1) := by decide +kernel
theorem dX13_isRefusedGive_58 : decode cX13_isRefusedGive 58 = .ok (.goto 4, 3) := by decide +kernel
theorem dX13_isRefusedGive_61 : decode cX13_isRefusedGive 61 = .ok (.iconst 0, 1) := by decide +kernel
theorem dX13_isRefusedGive_62 : decode cX13_isRefusedGive 62 = .ok (.ireturn, 1) := by decide +kernel
set_option maxRecDepth 20000 in
theorem ggX13_gives_X13_plants : GoodIn wsX13_gives wsX13_plants := goodIn_r _ [6, 1, 7, 8, 9, 10, 11, 12, 13, 14, 15, 16, 17, 18, 19, 20, 21, 22, 23, 24, 25, 26, 27, 28, 29, 30, 31, 32, 33] (by decide +kernel) (by decide +kernel)
set_option maxRecDepth 20000 in
theorem gX13_gives_X13_plants : GoodIn wsX13_gives (wsV RX13 104 RX13 yX13_plants wsX13_plants) := goodIn_app (goodIn_of _ (by decide +kernel)) ggX13_gives_X13_plants
theorem dX13_gives_0 : decode cX13_gives 0 = .ok (.aload_n 0, 1) := by decide +kernel
theorem dX13_gives_1 : decode cX13_gives 1 = .ok (.getfield 7, 3) := by decide +kernel
theorem dX13_gives_4 : decode cX13_gives 4 = .ok (.bipush 10, 2) := by decide +kernel
theorem dX13_gives_6 : decode cX13_gives 6 = .ok (.iload_n 1, 1) := by decide +kernel
theorem dX13_gives_7 : decode cX13_gives 7 = .ok (.iadd, 1) := by decide +kernel
theorem dX13_gives_8 : decode cX13_gives 8 = .ok (.dup2, 1) := by decide +kernel
theorem dX13_gives_9 : decode cX13_gives 9 = .ok (.iaload, 1) := by decide +kernel
theorem dX13_gives_10 : decode cX13_gives 10 = .ok (.iload_n 3, 1) := by decide +kernel
theorem dX13_gives_11 : decode cX13_gives 11 = .ok (.isub, 1) := by decide +kernel
theorem dX13_gives_12 : decode cX13_gives 12 = .ok (.iastore, 1) := by decide +kernel
theorem dX13_gives_13 : decode cX13_gives 13 = .ok (.aload_n 0, 1) := by decide +kernel
theorem dX13_gives_14 : decode cX13_gives 14 = .ok (.getfield 7, 3) := by decide +kernel
theorem dX13_gives_17 : decode cX13_gives 17 = .ok (.bipush 10, 2) := by decide +kernel
theorem dX13_gives_19 : decode cX13_gives 19 = .ok (.iload_n 2, 1) := by decide +kernel
theorem dX13_gives_20 : decode cX13_gives 20 = .ok (.iadd, 1) := by decide +kernel
theorem dX13_gives_21 : decode cX13_gives 21 = .ok (.dup2, 1) := by decide +kernel
theorem dX13_gives_22 : decode cX13_gives 22 = .ok (.iaload, 1) := by decide +kernel
theorem dX13_gives_23 : decode cX13_gives 23 = .ok (.iload_n 3, 1) := by decide +kernel
theorem dX13_gives_24 : decode cX13_gives 24 = .ok (.iadd, 1) := by decide +kernel
theorem dX13_gives_25 : decode cX13_gives 25 = .ok (.iastore, 1) := by decide +kernel
theorem dX13_gives_26 : decode cX13_gives 26 = .ok (.aload_n 0, 1) := by decide +kernel
theorem dX13_gives_27 : decode cX13_gives 27 = .ok (.getfield 7, 3) := by decide +kernel
theorem dX13_gives_30 : decode cX13_gives 30 = .ok (.iconst 3, 1) := by decide +kernel
theorem dX13_gives_31 : decode cX13_gives 31 = .ok (.dup2, 1) := by decide +kernel
theorem dX13_gives_32 : decode cX13_gives 32 = .ok (.iaload, 1) := by decide +kernel
theorem dX13_gives_33 : decode cX13_gives 33 = .ok (.iload_n 3, 1) := by decide +kernel
theorem dX13_gives_34 : decode cX13_gives 34 = .ok (.iadd, 1) := by decide +kernel
theorem dX13_gives_35 : decode cX13_gives 35 = .ok (.iastore, 1) := by decide +kernel
theorem dX13_gives_36 : decode cX13_gives 36 = .ok (.aload_n 0, 1) := by decide +kernel
theorem dX13_gives_37 : decode cX13_gives 37 = .ok (.iload_n 2, 1) := by decide +kernel
theorem dX13_gives_38 : decode cX13_gives 38 = .ok (.invokevirtual 104, 3) := by decide +kernel
theorem dX13_gives_41 : decode cX13_gives 41 = .ok (.ireturn, 1) := by decide +kernel
set_option maxRecDepth 20000 in
theorem ggX13_give_X13_begins : GoodIn wsX13_give wsX13_begins := goodIn_r _ [5, 6, 7, 8, 9, 4, 10, 81, 82, 83, 84, 85, 86, 87, 88, 89, 90, 91, 92, 93, 94, 95, 96, 97, 98, 99, 100, 101, 102, 103, 104, 105, 106, 107] (by decide +kernel) (by decide +kernel)
set_option maxRecDepth 20000 in
theorem gX13_give_X13_begins : GoodIn wsX13_give (wsV RX13 135 RX13 yX13_begins wsX13_begins) := goodIn_app (goodIn_of _ (by decide +kernel)) ggX13_give_X13_begins
set_option maxRecDepth 20000 in
theorem ggX13_give_X13_areTwo : GoodIn wsX13_give wsX13_areTwo := goodIn_r _ [13, 14, 15, 4, 16, 17, 18, 19] (by decide +kernel) (by decide +kernel)
set_option maxRecDepth 20000 in
theorem gX13_give_X13_areTwo : GoodIn wsX13_give (va_wsS RX13 169 yX13_areTwo wsX13_areTwo) := goodIn_app (goodIn_of _ (by decide +kernel)) ggX13_give_X13_areTwo
set_option maxRecDepth 20000 in
theorem ggX13_give_X13_areMany : GoodIn wsX13_give wsX13_areMany := goodIn_r _ [22, 17, 18, 4, 19] (by decide +kernel) (by decide +kernel)
set_option maxRecDepth 20000 in
theorem gX13_give_X13_areMany : GoodIn wsX13_give (va_wsS RX13 142 yX13_areMany wsX13_areMany) := goodIn_app (goodIn_of _ (by decide +kernel)) ggX13_give_X13_areMany
set_option maxRecDepth 20000 in
theorem ggX13_give_X13_isRefusedGive : GoodIn wsX13_give wsX13_isRefusedGive := goodIn_r _ [26, 27, 28, 29, 4, 30, 31, 32, 33, 34, 35, 36, 37, 38, 39, 40, 41, 42, 43, 44, 45, 46, 47, 48, 6, 49, 50, 51, 52, 53, 54, 55, 56, 57, 58, 59, 60, 61, 62, 63, 81, 82, 83, 84, 85, 86, 87, 88, 89, 90, 91, 92, 93, 94, 95, 96, 97, 98, 99, 100, 101, 102, 103, 104, 105, 106, 107] (by decide +kernel) (by decide +kernel)
set_option maxRecDepth 20000 in
theorem gX13_give_X13_isRefusedGive : GoodIn wsX13_give (wsV RX13 191 RX13 yX13_isRefusedGive wsX13_isRefusedGive) := goodIn_app (goodIn_of _ (by decide +kernel)) ggX13_give_X13_isRefusedGive
set_option maxRecDepth 20000 in
theorem ggX13_give_X13_refused : GoodIn wsX13_give wsX13_refused := goodIn_r _ [67, 39, 68, 40, 69, 70, 81, 82, 83, 84, 85, 86, 87, 88, 89, 90, 91, 92, 93, 94, 95, 96, 97, 98, 99, 100, 101, 102, 103, 104, 105, 106, 107] (by decide +kernel) (by decide +kernel)
set_option maxRecDepth 20000 in
theorem gX13_give_X13_refused : GoodIn wsX13_give (wsV RX13 148 RX13 yX13_refused wsX13_refused) := goodIn_app (goodIn_of _ (by decide +kernel)) ggX13_give_X13_refused
set_option maxRecDepth 20000 in
theorem ggX13_give_X13_gives : GoodIn wsX13_give wsX13_gives := goodIn_r _ [74, 6, 52, 53, 54, 4, 55, 81, 82, 83, 84, 85, 86, 87, 88, 89, 90, 91, 92, 93, 94, 95, 96, 97, 98, 99, 100, 101, 102, 103, 104, 105, 106, 107] (by decide +kernel) (by decide +kernel)
set_option maxRecDepth 20000 in
theorem gX13_give_X13_gives : GoodIn wsX13_give (wsV RX13 194 RX13 yX13_gives wsX13_gives) := goodIn_app (goodIn_of _ (by decide +kernel)) ggX13_give_X13_gives
set_option maxRecDepth 20000 in
theorem ggX13_give_X13_keeps : GoodIn wsX13_give wsX13_keeps := goodIn_r _ [78, 79, 80, 7, 8, 9, 4, 10, 81, 82, 83, 84, 85, 86, 87, 88, 89, 90, 91, 92, 93, 94, 95, 96, 97, 98, 99, 100, 101, 102, 103, 104, 105, 106, 107] (by decide +kernel) (by decide +kernel)
set_option maxRecDepth 20000 in
theorem gX13_give_X13_keeps : GoodIn wsX13_give (wsV RX13 154 RX13 yX13_keeps wsX13_keeps) := goodIn_app (goodIn_of _ (by decide +kernel)) ggX13_give_X13_keeps
theorem dX13_give_0 : decode cX13_give 0 = .ok (.aload_n 0, 1) := by decide +kernel
theorem dX13_give_1 : decode cX13_give 1 = .ok (.invokevirtual 135, 3) := by decide +kernel
theorem dX13_give_4 : decode cX13_give 4 = .ok (.iload_n 1, 1) := by decide +kernel
theorem dX13_give_5 : decode cX13_give 5 = .ok (.iload_n 2, 1) := by decide +kernel
theorem dX13_give_6 : decode cX13_give 6 = .ok (.invokestatic 169, 3) := by decide +kernel
theorem dX13_give_9 : decode cX13_give 9 = .ok (.ifCond .ne 5, 3) := by decide +kernel
theorem dX13_give_12 : decode cX13_give 12 = .ok (.iconst (-1), 1) := by decide +kernel
theorem dX13_give_13 : decode cX13_give 13 = .ok (.ireturn, 1) := by decide +kernel
theorem dX13_give_14 : decode cX13_give 14 = .ok (.iload_n 3, 1) := by decide +kernel
theorem dX13_give_15 : decode cX13_give 15 = .ok (.invokestatic 142, 3) := by decide +kernel
theorem dX13_give_18 : decode cX13_give 18 = .ok (.ifCond .ne 6, 3) := by decide +kernel
theorem dX13_give_21 : decode cX13_give 21 = .ok (.bipush (-2), 2) := by decide +kernel
theorem dX13_give_23 : decode cX13_give 23 = .ok (.ireturn, 1) := by decide +kernel
theorem dX13_give_24 : decode cX13_give 24 = .ok (.aload_n 0, 1) := by decide +kernel
theorem dX13_give_25 : decode cX13_give 25 = .ok (.iload_n 1, 1) := by decide +kernel
theorem dX13_give_26 : decode cX13_give 26 = .ok (.iload_n 2, 1) := by decide +kernel
theorem dX13_give_27 : decode cX13_give 27 = .ok (.iload_n 3, 1) := by decide +kernel
theorem dX13_give_28 : decode cX13_give 28 = .ok (.invokevirtual 191, 3) := by decide +kernel
theorem dX13_give_31 : decode cX13_give 31 = .ok (.ifCond .eq 10, 3) := by decide +kernel
theorem dX13_give_34 : decode cX13_give 34 = .ok (.aload_n 0, 1) := by decide +kernel
theorem dX13_give_35 : decode cX13_give 35 = .ok (.invokevirtual 148, 3) := by decide +kernel
theorem dX13_give_38 : decode cX13_give 38 = .ok (.goto 14, 3) := by decide +kernel
theorem dX13_give_41 : decode cX13_give 41 = .ok (.aload_n 0, 1) := by decide +kernel
theorem dX13_give_42 : decode cX13_give 42 = .ok (.aload_n 0, 1) := by decide +kernel
theorem dX13_give_43 : decode cX13_give 43 = .ok (.iload_n 1, 1) := by decide +kernel
theorem dX13_give_44 : decode cX13_give 44 = .ok (.iload_n 2, 1) := by decide +kernel
theorem dX13_give_45 : decode cX13_give 45 = .ok (.iload_n 3, 1) := by decide +kernel
theorem dX13_give_46 : decode cX13_give 46 = .ok (.invokevirtual 194, 3) := by decide +kernel
theorem dX13_give_49 : decode cX13_give 49 = .ok (.invokevirtual 154, 3) := by decide +kernel
theorem dX13_give_52 : decode cX13_give 52 = .ok (.ireturn, 1) := by decide +kernel
set_option maxRecDepth 20000 in
theorem ggX13_given_X13_greetings : GoodIn wsX13_given wsX13_greetings := goodIn_r _ [5, 6, 7, 8, 9, 10, 11, 12, 13, 14, 15, 16, 17, 18, 19, 20, 21, 22, 23, 24, 25, 26, 27, 28, 29, 30, 31, 32, 33] (by decide +kernel) (by decide +kernel)
set_option maxRecDepth 20000 in
theorem gX13_given_X13_greetings : GoodIn wsX13_given (wsV RX13 182 RX13 yX13_greetings wsX13_greetings) := goodIn_app (goodIn_of _ (by decide +kernel)) ggX13_given_X13_greetings
theorem dX13_given_0 : decode cX13_given 0 = .ok (.iconst 0, 1) := by decide +kernel
theorem dX13_given_1 : decode cX13_given 1 = .ok (.istore_n 2, 1) := by decide +kernel
theorem dX13_given_2 : decode cX13_given 2 = .ok (.iconst 0, 1) := by decide +kernel
theorem dX13_given_3 : decode cX13_given 3 = .ok (.istore_n 3, 1) := by decide +kernel
theorem dX13_given_4 : decode cX13_given 4 = .ok (.iload_n 3, 1) := by decide +kernel
theorem dX13_given_5 : decode cX13_given 5 = .ok (.bipush 12, 2) := by decide +kernel
theorem dX13_given_7 : decode cX13_given 7 = .ok (.if_icmp .ge 18, 3) := by decide +kernel
theorem dX13_given_10 : decode cX13_given 10 = .ok (.iload_n 2, 1) := by decide +kernel
theorem dX13_given_11 : decode cX13_given 11 = .ok (.aload_n 0, 1) := by decide +kernel
theorem dX13_given_12 : decode cX13_given 12 = .ok (.iload_n 1, 1) := by decide +kernel
theorem dX13_given_13 : decode cX13_given 13 = .ok (.iload_n 3, 1) := by decide +kernel
theorem dX13_given_14 : decode cX13_given 14 = .ok (.invokevirtual 182, 3) := by decide +kernel
theorem dX13_given_17 : decode cX13_given 17 = .ok (.iadd, 1) := by decide +kernel
theorem dX13_given_18 : decode cX13_given 18 = .ok (.istore_n 2, 1) := by decide +kernel
theorem dX13_given_19 : decode cX13_given 19 = .ok (.iinc 3 1, 3) := by decide +kernel
theorem dX13_given_22 : decode cX13_given 22 = .ok (.goto (-18), 3) := by decide +kernel
theorem dX13_given_25 : decode cX13_given 25 = .ok (.iload_n 2, 1) := by decide +kernel
theorem dX13_given_26 : decode cX13_given 26 = .ok (.ireturn, 1) := by decide +kernel
set_option maxRecDepth 20000 in
theorem ggX13_got_X13_greetings : GoodIn wsX13_got wsX13_greetings := goodIn_r _ [5, 6, 7, 8, 9, 10, 11, 12, 13, 14, 15, 16, 17, 18, 19, 20, 21, 22, 23, 24, 25, 26, 27, 28, 29, 30, 31, 32, 33] (by decide +kernel) (by decide +kernel)
set_option maxRecDepth 20000 in
theorem gX13_got_X13_greetings : GoodIn wsX13_got (wsV RX13 182 RX13 yX13_greetings wsX13_greetings) := goodIn_app (goodIn_of _ (by decide +kernel)) ggX13_got_X13_greetings
theorem dX13_got_0 : decode cX13_got 0 = .ok (.iconst 0, 1) := by decide +kernel
theorem dX13_got_1 : decode cX13_got 1 = .ok (.istore_n 2, 1) := by decide +kernel
theorem dX13_got_2 : decode cX13_got 2 = .ok (.iconst 0, 1) := by decide +kernel
theorem dX13_got_3 : decode cX13_got 3 = .ok (.istore_n 3, 1) := by decide +kernel
theorem dX13_got_4 : decode cX13_got 4 = .ok (.iload_n 3, 1) := by decide +kernel
theorem dX13_got_5 : decode cX13_got 5 = .ok (.bipush 12, 2) := by decide +kernel
theorem dX13_got_7 : decode cX13_got 7 = .ok (.if_icmp .ge 18, 3) := by decide +kernel
theorem dX13_got_10 : decode cX13_got 10 = .ok (.iload_n 2, 1) := by decide +kernel
theorem dX13_got_11 : decode cX13_got 11 = .ok (.aload_n 0, 1) := by decide +kernel
theorem dX13_got_12 : decode cX13_got 12 = .ok (.iload_n 3, 1) := by decide +kernel
theorem dX13_got_13 : decode cX13_got 13 = .ok (.iload_n 1, 1) := by decide +kernel
theorem dX13_got_14 : decode cX13_got 14 = .ok (.invokevirtual 182, 3) := by decide +kernel
theorem dX13_got_17 : decode cX13_got 17 = .ok (.iadd, 1) := by decide +kernel
theorem dX13_got_18 : decode cX13_got 18 = .ok (.istore_n 2, 1) := by decide +kernel
theorem dX13_got_19 : decode cX13_got 19 = .ok (.iinc 3 1, 3) := by decide +kernel
theorem dX13_got_22 : decode cX13_got 22 = .ok (.goto (-18), 3) := by decide +kernel
theorem dX13_got_25 : decode cX13_got 25 = .ok (.iload_n 2, 1) := by decide +kernel
theorem dX13_got_26 : decode cX13_got 26 = .ok (.ireturn, 1) := by decide +kernel
set_option maxRecDepth 20000 in
theorem ggX13_allGreetings_X13_given : GoodIn wsX13_allGreetings wsX13_given := goodIn_r _ [5, 6, 7, 8, 4, 9, 10, 11, 12, 13, 14, 15, 16, 17, 18, 19, 20, 21, 22, 23, 24, 25, 26, 27, 28, 29, 30, 31, 32, 33, 34, 35, 36, 37] (by decide +kernel) (by decide +kernel)
set_option maxRecDepth 20000 in
theorem gX13_allGreetings_X13_given : GoodIn wsX13_allGreetings (wsV RX13 197 RX13 yX13_given wsX13_given) := goodIn_app (goodIn_of _ (by decide +kernel)) ggX13_allGreetings_X13_given
theorem dX13_allGreetings_0 : decode cX13_allGreetings 0 = .ok (.iconst 0, 1) := by decide +kernel
theorem dX13_allGreetings_1 : decode cX13_allGreetings 1 = .ok (.istore_n 1, 1) := by decide +kernel
theorem dX13_allGreetings_2 : decode cX13_allGreetings 2 = .ok (.iconst 0, 1) := by decide +kernel
theorem dX13_allGreetings_3 : decode cX13_allGreetings 3 = .ok (.istore_n 2, 1) := by decide +kernel
theorem dX13_allGreetings_4 : decode cX13_allGreetings 4 = .ok (.iload_n 2, 1) := by decide +kernel
theorem dX13_allGreetings_5 : decode cX13_allGreetings 5 = .ok (.bipush 12, 2) := by decide +kernel
theorem dX13_allGreetings_7 : decode cX13_allGreetings 7 = .ok (.if_icmp .ge 17, 3) := by decide +kernel
theorem dX13_allGreetings_10 : decode cX13_allGreetings 10 = .ok (.iload_n 1, 1) := by decide +kernel
theorem dX13_allGreetings_11 : decode cX13_allGreetings 11 = .ok (.aload_n 0, 1) := by decide +kernel
theorem dX13_allGreetings_12 : decode cX13_allGreetings 12 = .ok (.iload_n 2, 1) := by decide +kernel
theorem dX13_allGreetings_13 : decode cX13_allGreetings 13 = .ok (.invokevirtual 197, 3) := by decide +kernel
theorem dX13_allGreetings_16 : decode cX13_allGreetings 16 = .ok (.iadd, 1) := by decide +kernel
theorem dX13_allGreetings_17 : decode cX13_allGreetings 17 = .ok (.istore_n 1, 1) := by decide +kernel
theorem dX13_allGreetings_18 : decode cX13_allGreetings 18 = .ok (.iinc 2 1, 3) := by decide +kernel
theorem dX13_allGreetings_21 : decode cX13_allGreetings 21 = .ok (.goto (-17), 3) := by decide +kernel
theorem dX13_allGreetings_24 : decode cX13_allGreetings 24 = .ok (.iload_n 1, 1) := by decide +kernel
theorem dX13_allGreetings_25 : decode cX13_allGreetings 25 = .ok (.ireturn, 1) := by decide +kernel
set_option maxRecDepth 20000 in
theorem ggX13_friends_X13_greetings : GoodIn wsX13_friends wsX13_greetings := goodIn_r _ [5, 6, 7, 8, 9, 10, 11, 12, 13, 14, 15, 16, 17, 18, 19, 20, 21, 22, 23, 24, 25, 26, 27, 28, 29, 30, 31, 32, 33] (by decide +kernel) (by decide +kernel)
set_option maxRecDepth 20000 in
theorem gX13_friends_X13_greetings : GoodIn wsX13_friends (wsV RX13 182 RX13 yX13_greetings wsX13_greetings) := goodIn_app (goodIn_of _ (by decide +kernel)) ggX13_friends_X13_greetings
theorem dX13_friends_0 : decode cX13_friends 0 = .ok (.iconst 0, 1) := by decide +kernel
theorem dX13_friends_1 : decode cX13_friends 1 = .ok (.istore_n 2, 1) := by decide +kernel
theorem dX13_friends_2 : decode cX13_friends 2 = .ok (.iconst 0, 1) := by decide +kernel
theorem dX13_friends_3 : decode cX13_friends 3 = .ok (.istore_n 3, 1) := by decide +kernel
theorem dX13_friends_4 : decode cX13_friends 4 = .ok (.iload_n 3, 1) := by decide +kernel
theorem dX13_friends_5 : decode cX13_friends 5 = .ok (.bipush 12, 2) := by decide +kernel
theorem dX13_friends_7 : decode cX13_friends 7 = .ok (.if_icmp .ge 37, 3) := by decide +kernel
theorem dX13_friends_10 : decode cX13_friends 10 = .ok (.iload_n 2, 1) := by decide +kernel
theorem dX13_friends_11 : decode cX13_friends 11 = .ok (.aload_n 0, 1) := by decide +kernel
theorem dX13_friends_12 : decode cX13_friends 12 = .ok (.iload_n 1, 1) := by decide +kernel
theorem dX13_friends_13 : decode cX13_friends 13 = .ok (.iload_n 3, 1) := by decide +kernel
theorem dX13_friends_14 : decode cX13_friends 14 = .ok (.invokevirtual 182, 3) := by decide +kernel
theorem dX13_friends_17 : decode cX13_friends 17 = .ok (.ifCond .le 18, 3) := by decide +kernel
theorem dX13_friends_20 : decode cX13_friends 20 = .ok (.aload_n 0, 1) := by decide +kernel
theorem dX13_friends_21 : decode cX13_friends 21 = .ok (.iload_n 3, 1) := by decide +kernel
theorem dX13_friends_22 : decode cX13_friends 22 = .ok (.iload_n 1, 1) := by decide +kernel
theorem dX13_friends_23 : decode cX13_friends 23 = .ok (.invokevirtual 182, 3) := by decide +kernel
theorem dX13_friends_26 : decode cX13_friends 26 = .ok (.ifCond .le 9, 3) := by decide +kernel
theorem dX13_friends_29 : decode cX13_friends 29 = .ok (.iconst 1, 1) := by decide +kernel
theorem dX13_friends_30 : decode cX13_friends 30 = .ok (.iload_n 3, 1) := by decide +kernel
theorem dX13_friends_31 : decode cX13_friends 31 = .ok (.ishl, 1) := by decide +kernel
theorem dX13_friends_32 : decode cX13_friends 32 = .ok (.goto 4, 3) := by decide +kernel
theorem dX13_friends_35 : decode cX13_friends 35 = .ok (.iconst 0, 1) := by decide +kernel
theorem dX13_friends_36 : decode cX13_friends 36 = .ok (.ior, 1) := by decide +kernel
theorem dX13_friends_37 : decode cX13_friends 37 = .ok (.istore_n 2, 1) := by decide +kernel
theorem dX13_friends_38 : decode cX13_friends 38 = .ok (.iinc 3 1, 3) := by decide +kernel
theorem dX13_friends_41 : decode cX13_friends 41 = .ok (.goto (-37), 3) := by decide +kernel
theorem dX13_friends_44 : decode cX13_friends 44 = .ok (.iload_n 2, 1) := by decide +kernel
theorem dX13_friends_45 : decode cX13_friends 45 = .ok (.ireturn, 1) := by decide +kernel
theorem dX13_catPart_0 : decode cX13_catPart 0 = .ok (.aload_n 0, 1) := by decide +kernel
theorem dX13_catPart_1 : decode cX13_catPart 1 = .ok (.getfield 7, 3) := by decide +kernel
theorem dX13_catPart_4 : decode cX13_catPart 4 = .ok (.sipush 208, 3) := by decide +kernel
theorem dX13_catPart_7 : decode cX13_catPart 7 = .ok (.iconst 3, 1) := by decide +kernel
theorem dX13_catPart_8 : decode cX13_catPart 8 = .ok (.iload_n 1, 1) := by decide +kernel
theorem dX13_catPart_9 : decode cX13_catPart 9 = .ok (.imul, 1) := by decide +kernel
theorem dX13_catPart_10 : decode cX13_catPart 10 = .ok (.iadd, 1) := by decide +kernel
theorem dX13_catPart_11 : decode cX13_catPart 11 = .ok (.iload_n 2, 1) := by decide +kernel
theorem dX13_catPart_12 : decode cX13_catPart 12 = .ok (.iadd, 1) := by decide +kernel
theorem dX13_catPart_13 : decode cX13_catPart 13 = .ok (.iaload, 1) := by decide +kernel
theorem dX13_catPart_14 : decode cX13_catPart 14 = .ok (.ireturn, 1) := by decide +kernel
set_option maxRecDepth 20000 in
theorem ggX13_catOn_X13_catPart : GoodIn wsX13_catOn wsX13_catPart := goodIn_r _ [6, 1, 7, 8, 9, 10, 11, 12, 13, 14, 15, 16, 17, 18, 19, 20, 21, 22, 23, 24, 25, 26, 27, 28, 29, 30, 31, 32, 33] (by decide +kernel) (by decide +kernel)
set_option maxRecDepth 20000 in
theorem gX13_catOn_X13_catPart : GoodIn wsX13_catOn (wsV RX13 200 RX13 yX13_catPart wsX13_catPart) := goodIn_app (goodIn_of _ (by decide +kernel)) ggX13_catOn_X13_catPart
theorem dX13_catOn_0 : decode cX13_catOn 0 = .ok (.iconst 0, 1) := by decide +kernel
theorem dX13_catOn_1 : decode cX13_catOn 1 = .ok (.istore_n 2, 1) := by decide +kernel
theorem dX13_catOn_2 : decode cX13_catOn 2 = .ok (.iload_n 2, 1) := by decide +kernel
theorem dX13_catOn_3 : decode cX13_catOn 3 = .ok (.aload_n 0, 1) := by decide +kernel
theorem dX13_catOn_4 : decode cX13_catOn 4 = .ok (.getfield 7, 3) := by decide +kernel
theorem dX13_catOn_7 : decode cX13_catOn 7 = .ok (.iconst 1, 1) := by decide +kernel
theorem dX13_catOn_8 : decode cX13_catOn 8 = .ok (.iaload, 1) := by decide +kernel
theorem dX13_catOn_9 : decode cX13_catOn 9 = .ok (.if_icmp .ge 21, 3) := by decide +kernel
theorem dX13_catOn_12 : decode cX13_catOn 12 = .ok (.aload_n 0, 1) := by decide +kernel
theorem dX13_catOn_13 : decode cX13_catOn 13 = .ok (.iload_n 2, 1) := by decide +kernel
theorem dX13_catOn_14 : decode cX13_catOn 14 = .ok (.iconst 0, 1) := by decide +kernel
theorem dX13_catOn_15 : decode cX13_catOn 15 = .ok (.invokevirtual 200, 3) := by decide +kernel
theorem dX13_catOn_18 : decode cX13_catOn 18 = .ok (.iload_n 1, 1) := by decide +kernel
theorem dX13_catOn_19 : decode cX13_catOn 19 = .ok (.if_icmp .ne 5, 3) := by decide +kernel
theorem dX13_catOn_22 : decode cX13_catOn 22 = .ok (.iload_n 2, 1) := by decide +kernel
theorem dX13_catOn_23 : decode cX13_catOn 23 = .ok (.ireturn, 1) := by decide +kernel
theorem dX13_catOn_24 : decode cX13_catOn 24 = .ok (.iinc 2 1, 3) := by decide +kernel
theorem dX13_catOn_27 : decode cX13_catOn 27 = .ok (.goto (-25), 3) := by decide +kernel
theorem dX13_catOn_30 : decode cX13_catOn 30 = .ok (.bipush (-4), 2) := by decide +kernel
theorem dX13_catOn_32 : decode cX13_catOn 32 = .ok (.ireturn, 1) := by decide +kernel
set_option maxRecDepth 20000 in
theorem ggX13_isRefusedCat_X13_catOn : GoodIn wsX13_isRefusedCat wsX13_catOn := goodIn_r _ [6, 1, 7, 8, 9, 5, 10, 17, 18, 19, 20, 21, 22, 23, 24, 25, 26, 27, 28, 29, 30, 31, 32, 33, 34, 35, 36, 37, 38, 39, 40, 41, 42, 43] (by decide +kernel) (by decide +kernel)
set_option maxRecDepth 20000 in
theorem gX13_isRefusedCat_X13_catOn : GoodIn wsX13_isRefusedCat (wsV RX13 203 RX13 yX13_catOn wsX13_catOn) := goodIn_app (goodIn_of _ (by decide +kernel)) ggX13_isRefusedCat_X13_catOn
set_option maxRecDepth 20000 in
theorem ggX13_isRefusedCat_X13_isBad : GoodIn wsX13_isRefusedCat wsX13_isBad := goodIn_r _ [14, 15, 16, 17, 18, 19, 20, 21, 22, 23, 24, 25, 26, 27, 28, 29, 30, 31, 32, 33, 34, 35, 36, 37, 38, 39, 40, 41, 42, 43] (by decide +kernel) (by decide +kernel)
set_option maxRecDepth 20000 in
theorem gX13_isRefusedCat_X13_isBad : GoodIn wsX13_isRefusedCat (wsV RX13 132 RX13 yX13_isBad wsX13_isBad) := goodIn_app (goodIn_of _ (by decide +kernel)) ggX13_isRefusedCat_X13_isBad
theorem dX13_isRefusedCat_0 : decode cX13_isRefusedCat 0 = .ok (.aload_n 0, 1) := by decide +kernel
theorem dX13_isRefusedCat_1 : decode cX13_isRefusedCat 1 = .ok (.iload_n 1, 1) := by decide +kernel
theorem dX13_isRefusedCat_2 : decode cX13_isRefusedCat 2 = .ok (.invokevirtual 203, 3) := by decide +kernel
theorem dX13_isRefusedCat_5 : decode cX13_isRefusedCat 5 = .ok (.ifCond .lt 15, 3) := by decide +kernel
theorem dX13_isRefusedCat_8 : decode cX13_isRefusedCat 8 = .ok (.aload_n 0, 1) := by decide +kernel
theorem dX13_isRefusedCat_9 : decode cX13_isRefusedCat 9 = .ok (.bipush 8, 2) := by decide +kernel
theorem dX13_isRefusedCat_11 : decode cX13_isRefusedCat 11 = .ok (.aload_n 0, 1) := by decide +kernel
theorem dX13_isRefusedCat_12 : decode cX13_isRefusedCat 12 = .ok (.iload_n 1, 1) := by decide +kernel
theorem dX13_isRefusedCat_13 : decode cX13_isRefusedCat 13 = .ok (.invokevirtual 203, 3) := by decide +kernel
theorem dX13_isRefusedCat_16 : decode cX13_isRefusedCat 16 = .ok (.invokevirtual 132, 3) := by decide +kernel
theorem dX13_isRefusedCat_19 : decode cX13_isRefusedCat 19 = .ok (.ireturn, 1) := by decide +kernel
theorem dX13_isRefusedCat_20 : decode cX13_isRefusedCat 20 = .ok (.aload_n 0, 1) := by decide +kernel
theorem dX13_isRefusedCat_21 : decode cX13_isRefusedCat 21 = .ok (.getfield 7, 3) := by decide +kernel
theorem dX13_isRefusedCat_24 : decode cX13_isRefusedCat 24 = .ok (.iconst 1, 1) := by decide +kernel
theorem dX13_isRefusedCat_25 : decode cX13_isRefusedCat 25 = .ok (.iaload, 1) := by decide +kernel
theorem dX13_isRefusedCat_26 : decode cX13_isRefusedCat 26 = .ok (.bipush 6, 2) := by decide +kernel
theorem dX13_isRefusedCat_28 : decode cX13_isRefusedCat 28 = .ok (.if_icmp .ne 17, 3) := by decide +kernel
theorem dX13_isRefusedCat_31 : decode cX13_isRefusedCat 31 = .ok (.aload_n 0, 1) := by decide +kernel
theorem dX13_isRefusedCat_32 : decode cX13_isRefusedCat 32 = .ok (.iconst 1, 1) := by decide +kernel
theorem dX13_isRefusedCat_33 : decode cX13_isRefusedCat 33 = .ok (.bipush 6, 2) := by decide +kernel
theorem dX13_isRefusedCat_35 : decode cX13_isRefusedCat 35 = .ok (.invokevirtual 132, 3) := by decide +kernel
theorem dX13_isRefusedCat_38 : decode cX13_isRefusedCat 38 = .ok (.ifCond .eq 7, 3) := by decide +kernel
theorem dX13_isRefusedCat_41 : decode cX13_isRefusedCat 41 = .ok (.iconst 1, 1) := by decide +kernel
theorem dX13_isRefusedCat_42 : decode cX13_isRefusedCat 42 = .ok (.goto 4, 3) := by decide +kernel
theorem dX13_isRefusedCat_45 : decode cX13_isRefusedCat 45 = .ok (.iconst 0, 1) := by decide +kernel
theorem dX13_isRefusedCat_46 : decode cX13_isRefusedCat 46 = .ok (.ireturn, 1) := by decide +kernel
theorem dX13_comes_0 : decode cX13_comes 0 = .ok (.aload_n 0, 1) := by decide +kernel
theorem dX13_comes_1 : decode cX13_comes 1 = .ok (.getfield 7, 3) := by decide +kernel
theorem dX13_comes_4 : decode cX13_comes 4 = .ok (.iconst 1, 1) := by decide +kernel
theorem dX13_comes_5 : decode cX13_comes 5 = .ok (.iaload, 1) := by decide +kernel
theorem dX13_comes_6 : decode cX13_comes 6 = .ok (.istore_n 2, 1) := by decide +kernel
theorem dX13_comes_7 : decode cX13_comes 7 = .ok (.aload_n 0, 1) := by decide +kernel
theorem dX13_comes_8 : decode cX13_comes 8 = .ok (.getfield 7, 3) := by decide +kernel
theorem dX13_comes_11 : decode cX13_comes 11 = .ok (.sipush 208, 3) := by decide +kernel
theorem dX13_comes_14 : decode cX13_comes 14 = .ok (.iconst 3, 1) := by decide +kernel
theorem dX13_comes_15 : decode cX13_comes 15 = .ok (.iload_n 2, 1) := by decide +kernel
theorem dX13_comes_16 : decode cX13_comes 16 = .ok (.imul, 1) := by decide +kernel
theorem dX13_comes_17 : decode cX13_comes 17 = .ok (.iadd, 1) := by decide +kernel
theorem dX13_comes_18 : decode cX13_comes 18 = .ok (.iload_n 1, 1) := by decide +kernel
theorem dX13_comes_19 : decode cX13_comes 19 = .ok (.iastore, 1) := by decide +kernel
theorem dX13_comes_20 : decode cX13_comes 20 = .ok (.aload_n 0, 1) := by decide +kernel
theorem dX13_comes_21 : decode cX13_comes 21 = .ok (.getfield 7, 3) := by decide +kernel
theorem dX13_comes_24 : decode cX13_comes 24 = .ok (.sipush 208, 3) := by decide +kernel
theorem dX13_comes_27 : decode cX13_comes 27 = .ok (.iconst 3, 1) := by decide +kernel
theorem dX13_comes_28 : decode cX13_comes 28 = .ok (.iload_n 2, 1) := by decide +kernel
theorem dX13_comes_29 : decode cX13_comes 29 = .ok (.imul, 1) := by decide +kernel
theorem dX13_comes_30 : decode cX13_comes 30 = .ok (.iadd, 1) := by decide +kernel
theorem dX13_comes_31 : decode cX13_comes 31 = .ok (.iconst 1, 1) := by decide +kernel
theorem dX13_comes_32 : decode cX13_comes 32 = .ok (.iadd, 1) := by decide +kernel
theorem dX13_comes_33 : decode cX13_comes 33 = .ok (.iload_n 1, 1) := by decide +kernel
theorem dX13_comes_34 : decode cX13_comes 34 = .ok (.iastore, 1) := by decide +kernel
theorem dX13_comes_35 : decode cX13_comes 35 = .ok (.aload_n 0, 1) := by decide +kernel
theorem dX13_comes_36 : decode cX13_comes 36 = .ok (.getfield 7, 3) := by decide +kernel
theorem dX13_comes_39 : decode cX13_comes 39 = .ok (.sipush 208, 3) := by decide +kernel
theorem dX13_comes_42 : decode cX13_comes 42 = .ok (.iconst 3, 1) := by decide +kernel
theorem dX13_comes_43 : decode cX13_comes 43 = .ok (.iload_n 2, 1) := by decide +kernel
theorem dX13_comes_44 : decode cX13_comes 44 = .ok (.imul, 1) := by decide +kernel
theorem dX13_comes_45 : decode cX13_comes 45 = .ok (.iadd, 1) := by decide +kernel
theorem dX13_comes_46 : decode cX13_comes 46 = .ok (.iconst 2, 1) := by decide +kernel
theorem dX13_comes_47 : decode cX13_comes 47 = .ok (.iadd, 1) := by decide +kernel
theorem dX13_comes_48 : decode cX13_comes 48 = .ok (.iconst 0, 1) := by decide +kernel
theorem dX13_comes_49 : decode cX13_comes 49 = .ok (.iastore, 1) := by decide +kernel
theorem dX13_comes_50 : decode cX13_comes 50 = .ok (.aload_n 0, 1) := by decide +kernel
theorem dX13_comes_51 : decode cX13_comes 51 = .ok (.getfield 7, 3) := by decide +kernel
theorem dX13_comes_54 : decode cX13_comes 54 = .ok (.iconst 1, 1) := by decide +kernel
theorem dX13_comes_55 : decode cX13_comes 55 = .ok (.dup2, 1) := by decide +kernel
theorem dX13_comes_56 : decode cX13_comes 56 = .ok (.iaload, 1) := by decide +kernel
theorem dX13_comes_57 : decode cX13_comes 57 = .ok (.iconst 1, 1) := by decide +kernel
theorem dX13_comes_58 : decode cX13_comes 58 = .ok (.iadd, 1) := by decide +kernel
theorem dX13_comes_59 : decode cX13_comes 59 = .ok (.iastore, 1) := by decide +kernel
theorem dX13_comes_60 : decode cX13_comes 60 = .ok (.iload_n 2, 1) := by decide +kernel
theorem dX13_comes_61 : decode cX13_comes 61 = .ok (.ireturn, 1) := by decide +kernel
set_option maxRecDepth 20000 in
theorem ggX13_cat_X13_begins : GoodIn wsX13_cat wsX13_begins := goodIn_r _ [5, 6, 7, 8, 9, 4, 10, 52, 53, 54, 55, 56, 57, 58, 59, 60, 61, 62, 63, 64, 65, 66, 67, 68, 69, 70, 71, 72, 73, 74, 75, 76, 77, 78] (by decide +kernel) (by decide +kernel)
set_option maxRecDepth 20000 in
theorem gX13_cat_X13_begins : GoodIn wsX13_cat (wsV RX13 135 RX13 yX13_begins wsX13_begins) := goodIn_app (goodIn_of _ (by decide +kernel)) ggX13_cat_X13_begins
set_option maxRecDepth 20000 in
theorem ggX13_cat_X13_isBalcony : GoodIn wsX13_cat wsX13_isBalcony := goodIn_r _ [13, 14, 15, 4, 16] (by decide +kernel) (by decide +kernel)
set_option maxRecDepth 20000 in
theorem gX13_cat_X13_isBalcony : GoodIn wsX13_cat (va_wsS RX13 138 yX13_isBalcony wsX13_isBalcony) := goodIn_app (goodIn_of _ (by decide +kernel)) ggX13_cat_X13_isBalcony
set_option maxRecDepth 20000 in
theorem ggX13_cat_X13_isRefusedCat : GoodIn wsX13_cat wsX13_isRefusedCat := goodIn_r _ [20, 6, 21, 22, 23, 4, 24, 25, 26, 27, 28, 29, 30, 31, 32, 33, 34, 52, 53, 54, 55, 56, 57, 58, 59, 60, 61, 62, 63, 64, 65, 66, 67, 68, 69, 70, 71, 72, 73, 74, 75, 76, 77, 78] (by decide +kernel) (by decide +kernel)
set_option maxRecDepth 20000 in
theorem gX13_cat_X13_isRefusedCat : GoodIn wsX13_cat (wsV RX13 206 RX13 yX13_isRefusedCat wsX13_isRefusedCat) := goodIn_app (goodIn_of _ (by decide +kernel)) ggX13_cat_X13_isRefusedCat
set_option maxRecDepth 20000 in
theorem ggX13_cat_X13_refused : GoodIn wsX13_cat wsX13_refused := goodIn_r _ [38, 33, 39, 34, 40, 41, 52, 53, 54, 55, 56, 57, 58, 59, 60, 61, 62, 63, 64, 65, 66, 67, 68, 69, 70, 71, 72, 73, 74, 75, 76, 77, 78] (by decide +kernel) (by decide +kernel)
set_option maxRecDepth 20000 in
theorem gX13_cat_X13_refused : GoodIn wsX13_cat (wsV RX13 148 RX13 yX13_refused wsX13_refused) := goodIn_app (goodIn_of _ (by decide +kernel)) ggX13_cat_X13_refused
set_option maxRecDepth 20000 in
theorem ggX13_cat_X13_comes : GoodIn wsX13_cat wsX13_comes := goodIn_r _ [45, 6, 52, 53, 54, 55, 56, 57, 58, 59, 60, 61, 62, 63, 64, 65, 66, 67, 68, 69, 70, 71, 72, 73, 74, 75, 76, 77, 78] (by decide +kernel) (by decide +kernel)
set_option maxRecDepth 20000 in
theorem gX13_cat_X13_comes : GoodIn wsX13_cat (wsV RX13 209 RX13 yX13_comes wsX13_comes) := goodIn_app (goodIn_of _ (by decide +kernel)) ggX13_cat_X13_comes
set_option maxRecDepth 20000 in
theorem ggX13_cat_X13_keeps : GoodIn wsX13_cat wsX13_keeps := goodIn_r _ [49, 50, 51, 7, 8, 9, 4, 10, 52, 53, 54, 55, 56, 57, 58, 59, 60, 61, 62, 63, 64, 65, 66, 67, 68, 69, 70, 71, 72, 73, 74, 75, 76, 77, 78] (by decide +kernel) (by decide +kernel)
set_option maxRecDepth 20000 in
theorem gX13_cat_X13_keeps : GoodIn wsX13_cat (wsV RX13 154 RX13 yX13_keeps wsX13_keeps) := goodIn_app (goodIn_of _ (by decide +kernel)) ggX13_cat_X13_keeps
theorem dX13_cat_0 : decode cX13_cat 0 = .ok (.aload_n 0, 1) := by decide +kernel
theorem dX13_cat_1 : decode cX13_cat 1 = .ok (.invokevirtual 135, 3) := by decide +kernel
theorem dX13_cat_4 : decode cX13_cat 4 = .ok (.iload_n 1, 1) := by decide +kernel
theorem dX13_cat_5 : decode cX13_cat 5 = .ok (.invokestatic 138, 3) := by decide +kernel
theorem dX13_cat_8 : decode cX13_cat 8 = .ok (.ifCond .ne 5, 3) := by decide +kernel
theorem dX13_cat_11 : decode cX13_cat 11 = .ok (.iconst (-1), 1) := by decide +kernel
theorem dX13_cat_12 : decode cX13_cat 12 = .ok (.ireturn, 1) := by decide +kernel
theorem dX13_cat_13 : decode cX13_cat 13 = .ok (.aload_n 0, 1) := by decide +kernel
theorem dX13_cat_14 : decode cX13_cat 14 = .ok (.iload_n 1, 1) := by decide +kernel
theorem dX13_cat_15 : decode cX13_cat 15 = .ok (.invokevirtual 206, 3) := by decide +kernel
theorem dX13_cat_18 : decode cX13_cat 18 = .ok (.ifCond .eq 10, 3) := by decide +kernel
theorem dX13_cat_21 : decode cX13_cat 21 = .ok (.aload_n 0, 1) := by decide +kernel
theorem dX13_cat_22 : decode cX13_cat 22 = .ok (.invokevirtual 148, 3) := by decide +kernel
theorem dX13_cat_25 : decode cX13_cat 25 = .ok (.goto 12, 3) := by decide +kernel
theorem dX13_cat_28 : decode cX13_cat 28 = .ok (.aload_n 0, 1) := by decide +kernel
theorem dX13_cat_29 : decode cX13_cat 29 = .ok (.aload_n 0, 1) := by decide +kernel
theorem dX13_cat_30 : decode cX13_cat 30 = .ok (.iload_n 1, 1) := by decide +kernel
theorem dX13_cat_31 : decode cX13_cat 31 = .ok (.invokevirtual 209, 3) := by decide +kernel
theorem dX13_cat_34 : decode cX13_cat 34 = .ok (.invokevirtual 154, 3) := by decide +kernel
theorem dX13_cat_37 : decode cX13_cat 37 = .ok (.ireturn, 1) := by decide +kernel
set_option maxRecDepth 20000 in
theorem ggX13_isRefusedSwap_X13_isQuarrel : GoodIn wsX13_isRefusedSwap wsX13_isQuarrel := goodIn_r _ [6, 7, 8, 9, 5, 10, 11, 12, 13, 14, 15, 16, 17, 18, 19, 20, 21, 22, 23, 24, 1, 25, 26, 27, 28, 29, 30, 31, 32, 33, 34, 35, 36, 37, 38, 39, 48, 49, 50, 51, 52, 53, 54, 55, 56, 57, 58, 59, 60, 61, 62, 63, 64, 65, 66, 67, 68, 69, 70, 71, 72, 73, 74] (by decide +kernel) (by decide +kernel)
set_option maxRecDepth 20000 in
theorem gX13_isRefusedSwap_X13_isQuarrel : GoodIn wsX13_isRefusedSwap (wsV RX13 179 RX13 yX13_isQuarrel wsX13_isQuarrel) := goodIn_app (goodIn_of _ (by decide +kernel)) ggX13_isRefusedSwap_X13_isQuarrel
set_option maxRecDepth 20000 in
theorem ggX13_isRefusedSwap_X13_catOn : GoodIn wsX13_isRefusedSwap wsX13_catOn := goodIn_r _ [43, 1, 44, 45, 46, 5, 47, 48, 49, 50, 51, 52, 53, 54, 55, 56, 57, 58, 59, 60, 61, 62, 63, 64, 65, 66, 67, 68, 69, 70, 71, 72, 73, 74] (by decide +kernel) (by decide +kernel)
set_option maxRecDepth 20000 in
theorem gX13_isRefusedSwap_X13_catOn : GoodIn wsX13_isRefusedSwap (wsV RX13 203 RX13 yX13_catOn wsX13_catOn) := goodIn_app (goodIn_of _ (by decide +kernel)) ggX13_isRefusedSwap_X13_catOn
set_option maxRecDepth 20000 in
theorem ggX13_isRefusedSwap_X13_isBad : GoodIn wsX13_isRefusedSwap wsX13_isBad := goodIn_r _ [14, 15, 16, 48, 49, 50, 51, 52, 53, 54, 55, 56, 57, 58, 59, 60, 61, 62, 63, 64, 65, 66, 67, 68, 69, 70, 71, 72, 73, 74] (by decide +kernel) (by decide +kernel)
set_option maxRecDepth 20000 in
theorem gX13_isRefusedSwap_X13_isBad : GoodIn wsX13_isRefusedSwap (wsV RX13 132 RX13 yX13_isBad wsX13_isBad) := goodIn_app (goodIn_of _ (by decide +kernel)) ggX13_isRefusedSwap_X13_isBad
theorem dX13_isRefusedSwap_0 : decode cX13_isRefusedSwap 0 = .ok (.aload_n 0, 1) := by decide +kernel
theorem dX13_isRefusedSwap_1 : decode cX13_isRefusedSwap 1 = .ok (.iload_n 1, 1) := by decide +kernel
theorem dX13_isRefusedSwap_2 : decode cX13_isRefusedSwap 2 = .ok (.iload_n 2, 1) := by decide +kernel
theorem dX13_isRefusedSwap_3 : decode cX13_isRefusedSwap 3 = .ok (.invokevirtual 179, 3) := by decide +kernel
theorem dX13_isRefusedSwap_6 : decode cX13_isRefusedSwap 6 = .ok (.ifCond .ne 34, 3) := by decide +kernel
theorem dX13_isRefusedSwap_9 : decode cX13_isRefusedSwap 9 = .ok (.aload_n 0, 1) := by decide +kernel
theorem dX13_isRefusedSwap_10 : decode cX13_isRefusedSwap 10 = .ok (.iload_n 1, 1) := by decide +kernel
theorem dX13_isRefusedSwap_11 : decode cX13_isRefusedSwap 11 = .ok (.invokevirtual 203, 3) := by decide +kernel
theorem dX13_isRefusedSwap_14 : decode cX13_isRefusedSwap 14 = .ok (.ifCond .ge 30, 3) := by decide +kernel
theorem dX13_isRefusedSwap_17 : decode cX13_isRefusedSwap 17 = .ok (.aload_n 0, 1) := by decide +kernel
theorem dX13_isRefusedSwap_18 : decode cX13_isRefusedSwap 18 = .ok (.iload_n 2, 1) := by decide +kernel
theorem dX13_isRefusedSwap_19 : decode cX13_isRefusedSwap 19 = .ok (.invokevirtual 203, 3) := by decide +kernel
theorem dX13_isRefusedSwap_22 : decode cX13_isRefusedSwap 22 = .ok (.ifCond .ge 22, 3) := by decide +kernel
theorem dX13_isRefusedSwap_25 : decode cX13_isRefusedSwap 25 = .ok (.aload_n 0, 1) := by decide +kernel
theorem dX13_isRefusedSwap_26 : decode cX13_isRefusedSwap 26 = .ok (.bipush 9, 2) := by decide +kernel
theorem dX13_isRefusedSwap_28 : decode cX13_isRefusedSwap 28 = .ok (.aload_n 0, 1) := by decide +kernel
theorem dX13_isRefusedSwap_29 : decode cX13_isRefusedSwap 29 = .ok (.getfield 7, 3) := by decide +kernel
theorem dX13_isRefusedSwap_32 : decode cX13_isRefusedSwap 32 = .ok (.iconst 1, 1) := by decide +kernel
theorem dX13_isRefusedSwap_33 : decode cX13_isRefusedSwap 33 = .ok (.iaload, 1) := by decide +kernel
theorem dX13_isRefusedSwap_34 : decode cX13_isRefusedSwap 34 = .ok (.invokevirtual 132, 3) := by decide +kernel
theorem dX13_isRefusedSwap_37 : decode cX13_isRefusedSwap 37 = .ok (.ifCond .eq 7, 3) := by decide +kernel
theorem dX13_isRefusedSwap_40 : decode cX13_isRefusedSwap 40 = .ok (.iconst 1, 1) := by decide +kernel
theorem dX13_isRefusedSwap_41 : decode cX13_isRefusedSwap 41 = .ok (.goto 4, 3) := by decide +kernel
theorem dX13_isRefusedSwap_44 : decode cX13_isRefusedSwap 44 = .ok (.iconst 0, 1) := by decide +kernel
theorem dX13_isRefusedSwap_45 : decode cX13_isRefusedSwap 45 = .ok (.ireturn, 1) := by decide +kernel
theorem dX13_goes_0 : decode cX13_goes 0 = .ok (.iload_n 1, 1) := by decide +kernel
theorem dX13_goes_1 : decode cX13_goes 1 = .ok (.ifCond .ge 5, 3) := by decide +kernel
theorem dX13_goes_4 : decode cX13_goes 4 = .ok (.iconst 0, 1) := by decide +kernel
theorem dX13_goes_5 : decode cX13_goes 5 = .ok (.ireturn, 1) := by decide +kernel
theorem dX13_goes_6 : decode cX13_goes 6 = .ok (.aload_n 0, 1) := by decide +kernel
theorem dX13_goes_7 : decode cX13_goes 7 = .ok (.getfield 7, 3) := by decide +kernel
theorem dX13_goes_10 : decode cX13_goes 10 = .ok (.sipush 208, 3) := by decide +kernel
theorem dX13_goes_13 : decode cX13_goes 13 = .ok (.iconst 3, 1) := by decide +kernel
theorem dX13_goes_14 : decode cX13_goes 14 = .ok (.iload_n 1, 1) := by decide +kernel
theorem dX13_goes_15 : decode cX13_goes 15 = .ok (.imul, 1) := by decide +kernel
theorem dX13_goes_16 : decode cX13_goes 16 = .ok (.iadd, 1) := by decide +kernel
theorem dX13_goes_17 : decode cX13_goes 17 = .ok (.iload_n 2, 1) := by decide +kernel
theorem dX13_goes_18 : decode cX13_goes 18 = .ok (.iastore, 1) := by decide +kernel
theorem dX13_goes_19 : decode cX13_goes 19 = .ok (.aload_n 0, 1) := by decide +kernel
theorem dX13_goes_20 : decode cX13_goes 20 = .ok (.getfield 7, 3) := by decide +kernel
theorem dX13_goes_23 : decode cX13_goes 23 = .ok (.sipush 208, 3) := by decide +kernel
theorem dX13_goes_26 : decode cX13_goes 26 = .ok (.iconst 3, 1) := by decide +kernel
theorem dX13_goes_27 : decode cX13_goes 27 = .ok (.iload_n 1, 1) := by decide +kernel
theorem dX13_goes_28 : decode cX13_goes 28 = .ok (.imul, 1) := by decide +kernel
theorem dX13_goes_29 : decode cX13_goes 29 = .ok (.iadd, 1) := by decide +kernel
theorem dX13_goes_30 : decode cX13_goes 30 = .ok (.iconst 2, 1) := by decide +kernel
theorem dX13_goes_31 : decode cX13_goes 31 = .ok (.iadd, 1) := by decide +kernel
theorem dX13_goes_32 : decode cX13_goes 32 = .ok (.dup2, 1) := by decide +kernel
theorem dX13_goes_33 : decode cX13_goes 33 = .ok (.iaload, 1) := by decide +kernel
theorem dX13_goes_34 : decode cX13_goes 34 = .ok (.iconst 1, 1) := by decide +kernel
theorem dX13_goes_35 : decode cX13_goes 35 = .ok (.iadd, 1) := by decide +kernel
theorem dX13_goes_36 : decode cX13_goes 36 = .ok (.iastore, 1) := by decide +kernel
theorem dX13_goes_37 : decode cX13_goes 37 = .ok (.aload_n 0, 1) := by decide +kernel
theorem dX13_goes_38 : decode cX13_goes 38 = .ok (.getfield 7, 3) := by decide +kernel
theorem dX13_goes_41 : decode cX13_goes 41 = .ok (.bipush 6, 2) := by decide +kernel
theorem dX13_goes_43 : decode cX13_goes 43 = .ok (.dup2, 1) := by decide +kernel
theorem dX13_goes_44 : decode cX13_goes 44 = .ok (.iaload, 1) := by decide +kernel
theorem dX13_goes_45 : decode cX13_goes 45 = .ok (.iconst 1, 1) := by decide +kernel
theorem dX13_goes_46 : decode cX13_goes 46 = .ok (.iadd, 1) := by decide +kernel
theorem dX13_goes_47 : decode cX13_goes 47 = .ok (.iastore, 1) := by decide +kernel
theorem dX13_goes_48 : decode cX13_goes 48 = .ok (.iconst 1, 1) := by decide +kernel
theorem dX13_goes_49 : decode cX13_goes 49 = .ok (.ireturn, 1) := by decide +kernel
set_option maxRecDepth 20000 in
theorem ggX13_swaps_X13_catOn : GoodIn wsX13_swaps wsX13_catOn := goodIn_r _ [5, 6, 7, 8, 9, 4, 10, 15, 16, 17, 18, 19, 20, 21, 22, 23, 24, 25, 26, 27, 28, 29, 30, 31, 32, 33, 34, 35, 36, 37, 38, 39, 40, 41] (by decide +kernel) (by decide +kernel)
set_option maxRecDepth 20000 in
theorem gX13_swaps_X13_catOn : GoodIn wsX13_swaps (wsV RX13 203 RX13 yX13_catOn wsX13_catOn) := goodIn_app (goodIn_of _ (by decide +kernel)) ggX13_swaps_X13_catOn
set_option maxRecDepth 20000 in
theorem ggX13_swaps_X13_goes : GoodIn wsX13_swaps wsX13_goes := goodIn_r _ [14, 6, 15, 16, 17, 18, 19, 20, 21, 22, 23, 24, 25, 26, 27, 28, 29, 30, 31, 32, 33, 34, 35, 36, 37, 38, 39, 40, 41] (by decide +kernel) (by decide +kernel)
set_option maxRecDepth 20000 in
theorem gX13_swaps_X13_goes : GoodIn wsX13_swaps (wsV RX13 212 RX13 yX13_goes wsX13_goes) := goodIn_app (goodIn_of _ (by decide +kernel)) ggX13_swaps_X13_goes
theorem dX13_swaps_0 : decode cX13_swaps 0 = .ok (.aload_n 0, 1) := by decide +kernel
theorem dX13_swaps_1 : decode cX13_swaps 1 = .ok (.iload_n 1, 1) := by decide +kernel
theorem dX13_swaps_2 : decode cX13_swaps 2 = .ok (.invokevirtual 203, 3) := by decide +kernel
theorem dX13_swaps_5 : decode cX13_swaps 5 = .ok (.istore_n 3, 1) := by decide +kernel
theorem dX13_swaps_6 : decode cX13_swaps 6 = .ok (.aload_n 0, 1) := by decide +kernel
theorem dX13_swaps_7 : decode cX13_swaps 7 = .ok (.iload_n 2, 1) := by decide +kernel
theorem dX13_swaps_8 : decode cX13_swaps 8 = .ok (.invokevirtual 203, 3) := by decide +kernel
theorem dX13_swaps_11 : decode cX13_swaps 11 = .ok (.istore 4, 2) := by decide +kernel
theorem dX13_swaps_13 : decode cX13_swaps 13 = .ok (.aload_n 0, 1) := by decide +kernel
theorem dX13_swaps_14 : decode cX13_swaps 14 = .ok (.iload_n 3, 1) := by decide +kernel
theorem dX13_swaps_15 : decode cX13_swaps 15 = .ok (.iload_n 2, 1) := by decide +kernel
theorem dX13_swaps_16 : decode cX13_swaps 16 = .ok (.invokevirtual 212, 3) := by decide +kernel
theorem dX13_swaps_19 : decode cX13_swaps 19 = .ok (.aload_n 0, 1) := by decide +kernel
theorem dX13_swaps_20 : decode cX13_swaps 20 = .ok (.iload 4, 2) := by decide +kernel
theorem dX13_swaps_22 : decode cX13_swaps 22 = .ok (.iload_n 1, 1) := by decide +kernel
theorem dX13_swaps_23 : decode cX13_swaps 23 = .ok (.invokevirtual 212, 3) := by decide +kernel
theorem dX13_swaps_26 : decode cX13_swaps 26 = .ok (.iadd, 1) := by decide +kernel
theorem dX13_swaps_27 : decode cX13_swaps 27 = .ok (.ireturn, 1) := by decide +kernel
set_option maxRecDepth 20000 in
theorem ggX13_swap_X13_begins : GoodIn wsX13_swap wsX13_begins := goodIn_r _ [5, 6, 7, 8, 9, 4, 10, 90, 91, 92, 93, 94, 95, 96, 97, 98, 99, 100, 101, 102, 103, 104, 105, 106, 107, 108, 109, 110, 111, 112, 113, 114, 115, 116] (by decide +kernel) (by decide +kernel)
set_option maxRecDepth 20000 in
theorem gX13_swap_X13_begins : GoodIn wsX13_swap (wsV RX13 135 RX13 yX13_begins wsX13_begins) := goodIn_app (goodIn_of _ (by decide +kernel)) ggX13_swap_X13_begins
set_option maxRecDepth 20000 in
theorem ggX13_swap_X13_areTwo : GoodIn wsX13_swap wsX13_areTwo := goodIn_r _ [13, 14, 15, 4, 16, 17, 18, 19] (by decide +kernel) (by decide +kernel)
set_option maxRecDepth 20000 in
theorem gX13_swap_X13_areTwo : GoodIn wsX13_swap (va_wsS RX13 169 yX13_areTwo wsX13_areTwo) := goodIn_app (goodIn_of _ (by decide +kernel)) ggX13_swap_X13_areTwo
set_option maxRecDepth 20000 in
theorem ggX13_swap_X13_isRefusedSwap : GoodIn wsX13_swap wsX13_isRefusedSwap := goodIn_r _ [23, 6, 24, 25, 26, 4, 27, 28, 29, 30, 31, 32, 33, 34, 35, 36, 37, 38, 39, 40, 41, 42, 43, 44, 45, 46, 47, 48, 49, 50, 51, 52, 53, 54, 55, 56, 57, 58, 59, 60, 61, 62, 63, 64, 65, 66, 67, 68, 90, 91, 92, 93, 94, 95, 96, 97, 98, 99, 100, 101, 102, 103, 104, 105, 106, 107, 108, 109, 110, 111, 112, 113, 114, 115, 116] (by decide +kernel) (by decide +kernel)
set_option maxRecDepth 20000 in
theorem gX13_swap_X13_isRefusedSwap : GoodIn wsX13_swap (wsV RX13 215 RX13 yX13_isRefusedSwap wsX13_isRefusedSwap) := goodIn_app (goodIn_of _ (by decide +kernel)) ggX13_swap_X13_isRefusedSwap
set_option maxRecDepth 20000 in
theorem ggX13_swap_X13_refused : GoodIn wsX13_swap wsX13_refused := goodIn_r _ [72, 36, 73, 37, 74, 75, 90, 91, 92, 93, 94, 95, 96, 97, 98, 99, 100, 101, 102, 103, 104, 105, 106, 107, 108, 109, 110, 111, 112, 113, 114, 115, 116] (by decide +kernel) (by decide +kernel)
set_option maxRecDepth 20000 in
theorem gX13_swap_X13_refused : GoodIn wsX13_swap (wsV RX13 148 RX13 yX13_refused wsX13_refused) := goodIn_app (goodIn_of _ (by decide +kernel)) ggX13_swap_X13_refused
set_option maxRecDepth 20000 in
theorem ggX13_swap_X13_swaps : GoodIn wsX13_swap wsX13_swaps := goodIn_r _ [79, 61, 62, 63, 4, 64, 6, 65, 66, 67, 68, 80, 81, 82, 83, 90, 91, 92, 93, 94, 95, 96, 97, 98, 99, 100, 101, 102, 103, 104, 105, 106, 107, 108, 109, 110, 111, 112, 113, 114, 115, 116] (by decide +kernel) (by decide +kernel)
set_option maxRecDepth 20000 in
theorem gX13_swap_X13_swaps : GoodIn wsX13_swap (wsV RX13 218 RX13 yX13_swaps wsX13_swaps) := goodIn_app (goodIn_of _ (by decide +kernel)) ggX13_swap_X13_swaps
set_option maxRecDepth 20000 in
theorem ggX13_swap_X13_keeps : GoodIn wsX13_swap wsX13_keeps := goodIn_r _ [87, 88, 89, 7, 8, 9, 4, 10, 90, 91, 92, 93, 94, 95, 96, 97, 98, 99, 100, 101, 102, 103, 104, 105, 106, 107, 108, 109, 110, 111, 112, 113, 114, 115, 116] (by decide +kernel) (by decide +kernel)
set_option maxRecDepth 20000 in
theorem gX13_swap_X13_keeps : GoodIn wsX13_swap (wsV RX13 154 RX13 yX13_keeps wsX13_keeps) := goodIn_app (goodIn_of _ (by decide +kernel)) ggX13_swap_X13_keeps
theorem dX13_swap_0 : decode cX13_swap 0 = .ok (.aload_n 0, 1) := by decide +kernel
theorem dX13_swap_1 : decode cX13_swap 1 = .ok (.invokevirtual 135, 3) := by decide +kernel
theorem dX13_swap_4 : decode cX13_swap 4 = .ok (.iload_n 1, 1) := by decide +kernel
theorem dX13_swap_5 : decode cX13_swap 5 = .ok (.iload_n 2, 1) := by decide +kernel
theorem dX13_swap_6 : decode cX13_swap 6 = .ok (.invokestatic 169, 3) := by decide +kernel
theorem dX13_swap_9 : decode cX13_swap 9 = .ok (.ifCond .ne 5, 3) := by decide +kernel
theorem dX13_swap_12 : decode cX13_swap 12 = .ok (.iconst (-1), 1) := by decide +kernel
theorem dX13_swap_13 : decode cX13_swap 13 = .ok (.ireturn, 1) := by decide +kernel
theorem dX13_swap_14 : decode cX13_swap 14 = .ok (.aload_n 0, 1) := by decide +kernel
theorem dX13_swap_15 : decode cX13_swap 15 = .ok (.iload_n 1, 1) := by decide +kernel
theorem dX13_swap_16 : decode cX13_swap 16 = .ok (.iload_n 2, 1) := by decide +kernel
theorem dX13_swap_17 : decode cX13_swap 17 = .ok (.invokevirtual 215, 3) := by decide +kernel
theorem dX13_swap_20 : decode cX13_swap 20 = .ok (.ifCond .eq 10, 3) := by decide +kernel
theorem dX13_swap_23 : decode cX13_swap 23 = .ok (.aload_n 0, 1) := by decide +kernel
theorem dX13_swap_24 : decode cX13_swap 24 = .ok (.invokevirtual 148, 3) := by decide +kernel
theorem dX13_swap_27 : decode cX13_swap 27 = .ok (.goto 13, 3) := by decide +kernel
theorem dX13_swap_30 : decode cX13_swap 30 = .ok (.aload_n 0, 1) := by decide +kernel
theorem dX13_swap_31 : decode cX13_swap 31 = .ok (.aload_n 0, 1) := by decide +kernel
theorem dX13_swap_32 : decode cX13_swap 32 = .ok (.iload_n 1, 1) := by decide +kernel
theorem dX13_swap_33 : decode cX13_swap 33 = .ok (.iload_n 2, 1) := by decide +kernel
theorem dX13_swap_34 : decode cX13_swap 34 = .ok (.invokevirtual 218, 3) := by decide +kernel
theorem dX13_swap_37 : decode cX13_swap 37 = .ok (.invokevirtual 154, 3) := by decide +kernel
theorem dX13_swap_40 : decode cX13_swap 40 = .ok (.ireturn, 1) := by decide +kernel
set_option maxRecDepth 20000 in
theorem ggX13_atHome_X13_catPart : GoodIn wsX13_atHome wsX13_catPart := goodIn_r _ [6, 1, 7, 8, 9, 10, 11, 12, 13, 14, 15, 16, 17, 18, 19, 20, 21, 22, 23, 24, 25, 26, 27, 28, 29, 30, 31, 32, 33] (by decide +kernel) (by decide +kernel)
set_option maxRecDepth 20000 in
theorem gX13_atHome_X13_catPart : GoodIn wsX13_atHome (wsV RX13 200 RX13 yX13_catPart wsX13_catPart) := goodIn_app (goodIn_of _ (by decide +kernel)) ggX13_atHome_X13_catPart
theorem dX13_atHome_0 : decode cX13_atHome 0 = .ok (.iconst 0, 1) := by decide +kernel
theorem dX13_atHome_1 : decode cX13_atHome 1 = .ok (.istore_n 1, 1) := by decide +kernel
theorem dX13_atHome_2 : decode cX13_atHome 2 = .ok (.iconst 0, 1) := by decide +kernel
theorem dX13_atHome_3 : decode cX13_atHome 3 = .ok (.istore_n 2, 1) := by decide +kernel
theorem dX13_atHome_4 : decode cX13_atHome 4 = .ok (.iload_n 2, 1) := by decide +kernel
theorem dX13_atHome_5 : decode cX13_atHome 5 = .ok (.aload_n 0, 1) := by decide +kernel
theorem dX13_atHome_6 : decode cX13_atHome 6 = .ok (.getfield 7, 3) := by decide +kernel
theorem dX13_atHome_9 : decode cX13_atHome 9 = .ok (.iconst 1, 1) := by decide +kernel
theorem dX13_atHome_10 : decode cX13_atHome 10 = .ok (.iaload, 1) := by decide +kernel
theorem dX13_atHome_11 : decode cX13_atHome 11 = .ok (.if_icmp .ge 32, 3) := by decide +kernel
theorem dX13_atHome_14 : decode cX13_atHome 14 = .ok (.iload_n 1, 1) := by decide +kernel
theorem dX13_atHome_15 : decode cX13_atHome 15 = .ok (.aload_n 0, 1) := by decide +kernel
theorem dX13_atHome_16 : decode cX13_atHome 16 = .ok (.iload_n 2, 1) := by decide +kernel
theorem dX13_atHome_17 : decode cX13_atHome 17 = .ok (.iconst 0, 1) := by decide +kernel
theorem dX13_atHome_18 : decode cX13_atHome 18 = .ok (.invokevirtual 200, 3) := by decide +kernel
theorem dX13_atHome_21 : decode cX13_atHome 21 = .ok (.aload_n 0, 1) := by decide +kernel
theorem dX13_atHome_22 : decode cX13_atHome 22 = .ok (.iload_n 2, 1) := by decide +kernel
theorem dX13_atHome_23 : decode cX13_atHome 23 = .ok (.iconst 1, 1) := by decide +kernel
theorem dX13_atHome_24 : decode cX13_atHome 24 = .ok (.invokevirtual 200, 3) := by decide +kernel
theorem dX13_atHome_27 : decode cX13_atHome 27 = .ok (.if_icmp .ne 7, 3) := by decide +kernel
theorem dX13_atHome_30 : decode cX13_atHome 30 = .ok (.iconst 1, 1) := by decide +kernel
theorem dX13_atHome_31 : decode cX13_atHome 31 = .ok (.goto 4, 3) := by decide +kernel
theorem dX13_atHome_34 : decode cX13_atHome 34 = .ok (.iconst 0, 1) := by decide +kernel
theorem dX13_atHome_35 : decode cX13_atHome 35 = .ok (.iadd, 1) := by decide +kernel
theorem dX13_atHome_36 : decode cX13_atHome 36 = .ok (.istore_n 1, 1) := by decide +kernel
theorem dX13_atHome_37 : decode cX13_atHome 37 = .ok (.iinc 2 1, 3) := by decide +kernel
theorem dX13_atHome_40 : decode cX13_atHome 40 = .ok (.goto (-36), 3) := by decide +kernel
theorem dX13_atHome_43 : decode cX13_atHome 43 = .ok (.iload_n 1, 1) := by decide +kernel
theorem dX13_atHome_44 : decode cX13_atHome 44 = .ok (.ireturn, 1) := by decide +kernel
set_option maxRecDepth 20000 in
theorem ggX13_isShaded_X13_plants : GoodIn wsX13_isShaded wsX13_plants := goodIn_r _ [5, 6, 7, 8, 9, 10, 11, 12, 13, 14, 15, 16, 17, 18, 19, 20, 21, 22, 23, 24, 25, 26, 27, 28, 29, 30, 31, 32, 33] (by decide +kernel) (by decide +kernel)
set_option maxRecDepth 20000 in
theorem gX13_isShaded_X13_plants : GoodIn wsX13_isShaded (wsV RX13 104 RX13 yX13_plants wsX13_plants) := goodIn_app (goodIn_of _ (by decide +kernel)) ggX13_isShaded_X13_plants
theorem dX13_isShaded_0 : decode cX13_isShaded 0 = .ok (.iload_n 1, 1) := by decide +kernel
theorem dX13_isShaded_1 : decode cX13_isShaded 1 = .ok (.iconst 4, 1) := by decide +kernel
theorem dX13_isShaded_2 : decode cX13_isShaded 2 = .ok (.iadd, 1) := by decide +kernel
theorem dX13_isShaded_3 : decode cX13_isShaded 3 = .ok (.istore_n 2, 1) := by decide +kernel
theorem dX13_isShaded_4 : decode cX13_isShaded 4 = .ok (.iload_n 2, 1) := by decide +kernel
theorem dX13_isShaded_5 : decode cX13_isShaded 5 = .ok (.bipush 12, 2) := by decide +kernel
theorem dX13_isShaded_7 : decode cX13_isShaded 7 = .ok (.if_icmp .ge 24, 3) := by decide +kernel
theorem dX13_isShaded_10 : decode cX13_isShaded 10 = .ok (.aload_n 0, 1) := by decide +kernel
theorem dX13_isShaded_11 : decode cX13_isShaded 11 = .ok (.iload_n 2, 1) := by decide +kernel
theorem dX13_isShaded_12 : decode cX13_isShaded 12 = .ok (.invokevirtual 104, 3) := by decide +kernel
theorem dX13_isShaded_15 : decode cX13_isShaded 15 = .ok (.aload_n 0, 1) := by decide +kernel
theorem dX13_isShaded_16 : decode cX13_isShaded 16 = .ok (.iload_n 1, 1) := by decide +kernel
theorem dX13_isShaded_17 : decode cX13_isShaded 17 = .ok (.invokevirtual 104, 3) := by decide +kernel
theorem dX13_isShaded_20 : decode cX13_isShaded 20 = .ok (.if_icmp .le 5, 3) := by decide +kernel
theorem dX13_isShaded_23 : decode cX13_isShaded 23 = .ok (.iconst 1, 1) := by decide +kernel
theorem dX13_isShaded_24 : decode cX13_isShaded 24 = .ok (.ireturn, 1) := by decide +kernel
theorem dX13_isShaded_25 : decode cX13_isShaded 25 = .ok (.iinc 2 4, 3) := by decide +kernel
theorem dX13_isShaded_28 : decode cX13_isShaded 28 = .ok (.goto (-24), 3) := by decide +kernel
theorem dX13_isShaded_31 : decode cX13_isShaded 31 = .ok (.iconst 0, 1) := by decide +kernel
theorem dX13_isShaded_32 : decode cX13_isShaded 32 = .ok (.ireturn, 1) := by decide +kernel
set_option maxRecDepth 20000 in
theorem ggX13_growing_X13_plants : GoodIn wsX13_growing wsX13_plants := goodIn_r _ [5, 6, 14, 15, 16, 17, 18, 19, 20, 21, 22, 23, 24, 25, 26, 27, 28, 29, 30, 31, 32, 33, 34, 35, 36, 37, 38, 39, 40] (by decide +kernel) (by decide +kernel)
set_option maxRecDepth 20000 in
theorem gX13_growing_X13_plants : GoodIn wsX13_growing (wsV RX13 104 RX13 yX13_plants wsX13_plants) := goodIn_app (goodIn_of _ (by decide +kernel)) ggX13_growing_X13_plants
set_option maxRecDepth 20000 in
theorem ggX13_growing_X13_in : GoodIn wsX13_growing wsX13_in := goodIn_r _ [9] (by decide +kernel) (by decide +kernel)
set_option maxRecDepth 20000 in
theorem gX13_growing_X13_in : GoodIn wsX13_growing (va_wsS RX13 100 yX13_in wsX13_in) := goodIn_app (goodIn_of _ (by decide +kernel)) ggX13_growing_X13_in
set_option maxRecDepth 20000 in
theorem ggX13_growing_X13_isShaded : GoodIn wsX13_growing wsX13_isShaded := goodIn_r _ [13, 1, 2, 3, 4, 5, 6, 14, 15, 16, 17, 18, 19, 20, 21, 22, 23, 24, 25, 26, 27, 28, 29, 30, 31, 32, 33, 34, 35, 36, 37, 38, 39, 40] (by decide +kernel) (by decide +kernel)
set_option maxRecDepth 20000 in
theorem gX13_growing_X13_isShaded : GoodIn wsX13_growing (wsV RX13 221 RX13 yX13_isShaded wsX13_isShaded) := goodIn_app (goodIn_of _ (by decide +kernel)) ggX13_growing_X13_isShaded
theorem dX13_growing_0 : decode cX13_growing 0 = .ok (.iconst 0, 1) := by decide +kernel
theorem dX13_growing_1 : decode cX13_growing 1 = .ok (.istore_n 1, 1) := by decide +kernel
theorem dX13_growing_2 : decode cX13_growing 2 = .ok (.iconst 0, 1) := by decide +kernel
theorem dX13_growing_3 : decode cX13_growing 3 = .ok (.istore_n 2, 1) := by decide +kernel
theorem dX13_growing_4 : decode cX13_growing 4 = .ok (.iload_n 2, 1) := by decide +kernel
theorem dX13_growing_5 : decode cX13_growing 5 = .ok (.bipush 12, 2) := by decide +kernel
theorem dX13_growing_7 : decode cX13_growing 7 = .ok (.if_icmp .ge 41, 3) := by decide +kernel
theorem dX13_growing_10 : decode cX13_growing 10 = .ok (.iload_n 1, 1) := by decide +kernel
theorem dX13_growing_11 : decode cX13_growing 11 = .ok (.aload_n 0, 1) := by decide +kernel
theorem dX13_growing_12 : decode cX13_growing 12 = .ok (.iload_n 2, 1) := by decide +kernel
theorem dX13_growing_13 : decode cX13_growing 13 = .ok (.invokevirtual 104, 3) := by decide +kernel
theorem dX13_growing_16 : decode cX13_growing 16 = .ok (.iconst 1, 1) := by decide +kernel
theorem dX13_growing_17 : decode cX13_growing 17 = .ok (.bipush 8, 2) := by decide +kernel
theorem dX13_growing_19 : decode cX13_growing 19 = .ok (.invokestatic 100, 3) := by decide +kernel
theorem dX13_growing_22 : decode cX13_growing 22 = .ok (.ifCond .eq 17, 3) := by decide +kernel
theorem dX13_growing_25 : decode cX13_growing 25 = .ok (.aload_n 0, 1) := by decide +kernel
theorem dX13_growing_26 : decode cX13_growing 26 = .ok (.iload_n 2, 1) := by decide +kernel
theorem dX13_growing_27 : decode cX13_growing 27 = .ok (.invokevirtual 221, 3) := by decide +kernel
theorem dX13_growing_30 : decode cX13_growing 30 = .ok (.ifCond .ne 9, 3) := by decide +kernel
theorem dX13_growing_33 : decode cX13_growing 33 = .ok (.iconst 1, 1) := by decide +kernel
theorem dX13_growing_34 : decode cX13_growing 34 = .ok (.iload_n 2, 1) := by decide +kernel
theorem dX13_growing_35 : decode cX13_growing 35 = .ok (.ishl, 1) := by decide +kernel
theorem dX13_growing_36 : decode cX13_growing 36 = .ok (.goto 4, 3) := by decide +kernel
theorem dX13_growing_39 : decode cX13_growing 39 = .ok (.iconst 0, 1) := by decide +kernel
theorem dX13_growing_40 : decode cX13_growing 40 = .ok (.ior, 1) := by decide +kernel
theorem dX13_growing_41 : decode cX13_growing 41 = .ok (.istore_n 1, 1) := by decide +kernel
theorem dX13_growing_42 : decode cX13_growing 42 = .ok (.iinc 2 1, 3) := by decide +kernel
theorem dX13_growing_45 : decode cX13_growing 45 = .ok (.goto (-41), 3) := by decide +kernel
theorem dX13_growing_48 : decode cX13_growing 48 = .ok (.iload_n 1, 1) := by decide +kernel
theorem dX13_growing_49 : decode cX13_growing 49 = .ok (.ireturn, 1) := by decide +kernel
set_option maxRecDepth 20000 in
theorem ggX13_grows_X13_growing : GoodIn wsX13_grows wsX13_growing := goodIn_r _ [6, 7, 8, 9, 5, 10, 1, 11, 12, 13, 14, 15, 16, 17, 18, 19, 20, 21, 22, 23, 24, 25, 26, 27, 28, 29, 30, 31, 32, 33, 34, 35, 36, 37, 38, 39, 40, 41, 42, 43, 44] (by decide +kernel) (by decide +kernel)
set_option maxRecDepth 20000 in
theorem gX13_grows_X13_growing : GoodIn wsX13_grows (wsV RX13 224 RX13 yX13_growing wsX13_growing) := goodIn_app (goodIn_of _ (by decide +kernel)) ggX13_grows_X13_growing
theorem dX13_grows_0 : decode cX13_grows 0 = .ok (.aload_n 0, 1) := by decide +kernel
theorem dX13_grows_1 : decode cX13_grows 1 = .ok (.invokevirtual 224, 3) := by decide +kernel
theorem dX13_grows_4 : decode cX13_grows 4 = .ok (.istore_n 1, 1) := by decide +kernel
theorem dX13_grows_5 : decode cX13_grows 5 = .ok (.iconst 0, 1) := by decide +kernel
theorem dX13_grows_6 : decode cX13_grows 6 = .ok (.istore_n 2, 1) := by decide +kernel
theorem dX13_grows_7 : decode cX13_grows 7 = .ok (.iconst 0, 1) := by decide +kernel
theorem dX13_grows_8 : decode cX13_grows 8 = .ok (.istore_n 3, 1) := by decide +kernel
theorem dX13_grows_9 : decode cX13_grows 9 = .ok (.iload_n 3, 1) := by decide +kernel
theorem dX13_grows_10 : decode cX13_grows 10 = .ok (.bipush 12, 2) := by decide +kernel
theorem dX13_grows_12 : decode cX13_grows 12 = .ok (.if_icmp .ge 34, 3) := by decide +kernel
theorem dX13_grows_15 : decode cX13_grows 15 = .ok (.aload_n 0, 1) := by decide +kernel
theorem dX13_grows_16 : decode cX13_grows 16 = .ok (.getfield 7, 3) := by decide +kernel
theorem dX13_grows_19 : decode cX13_grows 19 = .ok (.bipush 10, 2) := by decide +kernel
theorem dX13_grows_21 : decode cX13_grows 21 = .ok (.iload_n 3, 1) := by decide +kernel
theorem dX13_grows_22 : decode cX13_grows 22 = .ok (.iadd, 1) := by decide +kernel
theorem dX13_grows_23 : decode cX13_grows 23 = .ok (.dup2, 1) := by decide +kernel
theorem dX13_grows_24 : decode cX13_grows 24 = .ok (.iaload, 1) := by decide +kernel
theorem dX13_grows_25 : decode cX13_grows 25 = .ok (.iload_n 1, 1) := by decide +kernel
theorem dX13_grows_26 : decode cX13_grows 26 = .ok (.iload_n 3, 1) := by decide +kernel
theorem dX13_grows_27 : decode cX13_grows 27 = .ok (.ishr, 1) := by decide +kernel
theorem dX13_grows_28 : decode cX13_grows 28 = .ok (.iconst 1, 1) := by decide +kernel
theorem dX13_grows_29 : decode cX13_grows 29 = .ok (.iand, 1) := by decide +kernel
theorem dX13_grows_30 : decode cX13_grows 30 = .ok (.iadd, 1) := by decide +kernel
theorem dX13_grows_31 : decode cX13_grows 31 = .ok (.iastore, 1) := by decide +kernel
theorem dX13_grows_32 : decode cX13_grows 32 = .ok (.iload_n 2, 1) := by decide +kernel
theorem dX13_grows_33 : decode cX13_grows 33 = .ok (.iload_n 1, 1) := by decide +kernel
theorem dX13_grows_34 : decode cX13_grows 34 = .ok (.iload_n 3, 1) := by decide +kernel
theorem dX13_grows_35 : decode cX13_grows 35 = .ok (.ishr, 1) := by decide +kernel
theorem dX13_grows_36 : decode cX13_grows 36 = .ok (.iconst 1, 1) := by decide +kernel
theorem dX13_grows_37 : decode cX13_grows 37 = .ok (.iand, 1) := by decide +kernel
theorem dX13_grows_38 : decode cX13_grows 38 = .ok (.iadd, 1) := by decide +kernel
theorem dX13_grows_39 : decode cX13_grows 39 = .ok (.istore_n 2, 1) := by decide +kernel
theorem dX13_grows_40 : decode cX13_grows 40 = .ok (.iinc 3 1, 3) := by decide +kernel
theorem dX13_grows_43 : decode cX13_grows 43 = .ok (.goto (-34), 3) := by decide +kernel
theorem dX13_grows_46 : decode cX13_grows 46 = .ok (.aload_n 0, 1) := by decide +kernel
theorem dX13_grows_47 : decode cX13_grows 47 = .ok (.getfield 7, 3) := by decide +kernel
theorem dX13_grows_50 : decode cX13_grows 50 = .ok (.iconst 5, 1) := by decide +kernel
theorem dX13_grows_51 : decode cX13_grows 51 = .ok (.dup2, 1) := by decide +kernel
theorem dX13_grows_52 : decode cX13_grows 52 = .ok (.iaload, 1) := by decide +kernel
theorem dX13_grows_53 : decode cX13_grows 53 = .ok (.iload_n 2, 1) := by decide +kernel
theorem dX13_grows_54 : decode cX13_grows 54 = .ok (.iadd, 1) := by decide +kernel
theorem dX13_grows_55 : decode cX13_grows 55 = .ok (.iastore, 1) := by decide +kernel
theorem dX13_grows_56 : decode cX13_grows 56 = .ok (.iload_n 2, 1) := by decide +kernel
theorem dX13_grows_57 : decode cX13_grows 57 = .ok (.ireturn, 1) := by decide +kernel
set_option maxRecDepth 20000 in
theorem ggX13_ages_X13_linePart : GoodIn wsX13_ages wsX13_linePart := goodIn_r _ [6, 1, 7, 8, 9, 10, 11, 12, 13, 14, 15, 16, 17, 18, 19, 20, 21, 22, 23, 24, 25, 26, 27, 28, 29, 30, 31, 32, 33] (by decide +kernel) (by decide +kernel)
set_option maxRecDepth 20000 in
theorem gX13_ages_X13_linePart : GoodIn wsX13_ages (wsV RX13 108 RX13 yX13_linePart wsX13_linePart) := goodIn_app (goodIn_of _ (by decide +kernel)) ggX13_ages_X13_linePart
theorem dX13_ages_0 : decode cX13_ages 0 = .ok (.aload_n 0, 1) := by decide +kernel
theorem dX13_ages_1 : decode cX13_ages 1 = .ok (.getfield 7, 3) := by decide +kernel
theorem dX13_ages_4 : decode cX13_ages 4 = .ok (.iconst 0, 1) := by decide +kernel
theorem dX13_ages_5 : decode cX13_ages 5 = .ok (.iaload, 1) := by decide +kernel
theorem dX13_ages_6 : decode cX13_ages 6 = .ok (.istore_n 1, 1) := by decide +kernel
theorem dX13_ages_7 : decode cX13_ages 7 = .ok (.aload_n 0, 1) := by decide +kernel
theorem dX13_ages_8 : decode cX13_ages 8 = .ok (.getfield 7, 3) := by decide +kernel
theorem dX13_ages_11 : decode cX13_ages 11 = .ok (.iconst 0, 1) := by decide +kernel
theorem dX13_ages_12 : decode cX13_ages 12 = .ok (.iconst 0, 1) := by decide +kernel
theorem dX13_ages_13 : decode cX13_ages 13 = .ok (.iastore, 1) := by decide +kernel
theorem dX13_ages_14 : decode cX13_ages 14 = .ok (.iconst 0, 1) := by decide +kernel
theorem dX13_ages_15 : decode cX13_ages 15 = .ok (.istore_n 2, 1) := by decide +kernel
theorem dX13_ages_16 : decode cX13_ages 16 = .ok (.iload_n 2, 1) := by decide +kernel
theorem dX13_ages_17 : decode cX13_ages 17 = .ok (.iload_n 1, 1) := by decide +kernel
theorem dX13_ages_18 : decode cX13_ages 18 = .ok (.if_icmp .ge 143, 3) := by decide +kernel
theorem dX13_ages_21 : decode cX13_ages 21 = .ok (.aload_n 0, 1) := by decide +kernel
theorem dX13_ages_22 : decode cX13_ages 22 = .ok (.iload_n 2, 1) := by decide +kernel
theorem dX13_ages_23 : decode cX13_ages 23 = .ok (.iconst 0, 1) := by decide +kernel
theorem dX13_ages_24 : decode cX13_ages 24 = .ok (.invokevirtual 108, 3) := by decide +kernel
theorem dX13_ages_27 : decode cX13_ages 27 = .ok (.istore_n 3, 1) := by decide +kernel
theorem dX13_ages_28 : decode cX13_ages 28 = .ok (.aload_n 0, 1) := by decide +kernel
theorem dX13_ages_29 : decode cX13_ages 29 = .ok (.iload_n 2, 1) := by decide +kernel
theorem dX13_ages_30 : decode cX13_ages 30 = .ok (.iconst 1, 1) := by decide +kernel
theorem dX13_ages_31 : decode cX13_ages 31 = .ok (.invokevirtual 108, 3) := by decide +kernel
theorem dX13_ages_34 : decode cX13_ages 34 = .ok (.istore 4, 2) := by decide +kernel
theorem dX13_ages_36 : decode cX13_ages 36 = .ok (.aload_n 0, 1) := by decide +kernel
theorem dX13_ages_37 : decode cX13_ages 37 = .ok (.iload_n 2, 1) := by decide +kernel
theorem dX13_ages_38 : decode cX13_ages 38 = .ok (.iconst 2, 1) := by decide +kernel
theorem dX13_ages_39 : decode cX13_ages 39 = .ok (.invokevirtual 108, 3) := by decide +kernel
theorem dX13_ages_42 : decode cX13_ages 42 = .ok (.iconst 1, 1) := by decide +kernel
theorem dX13_ages_43 : decode cX13_ages 43 = .ok (.isub, 1) := by decide +kernel
theorem dX13_ages_44 : decode cX13_ages 44 = .ok (.istore 5, 2) := by decide +kernel
theorem dX13_ages_46 : decode cX13_ages 46 = .ok (.iconst 0, 1) := by decide +kernel
theorem dX13_ages_47 : decode cX13_ages 47 = .ok (.istore 6, 2) := by decide +kernel
theorem dX13_ages_49 : decode cX13_ages 49 = .ok (.iload 6, 2) := by decide +kernel
theorem dX13_ages_51 : decode cX13_ages 51 = .ok (.iconst 3, 1) := by decide +kernel
theorem dX13_ages_52 : decode cX13_ages 52 = .ok (.if_icmp .ge 25, 3) := by decide +kernel
theorem dX13_ages_55 : decode cX13_ages 55 = .ok (.aload_n 0, 1) := by decide +kernel
theorem dX13_ages_56 : decode cX13_ages 56 = .ok (.getfield 7, 3) := by decide +kernel
theorem dX13_ages_59 : decode cX13_ages 59 = .ok (.sipush 190, 3) := by decide +kernel
theorem dX13_ages_62 : decode cX13_ages 62 = .ok (.iconst 3, 1) := by decide +kernel
theorem dX13_ages_63 : decode cX13_ages 63 = .ok (.iload_n 2, 1) := by decide +kernel
theorem dX13_ages_64 : decode cX13_ages 64 = .ok (.imul, 1) := by decide +kernel
theorem dX13_ages_65 : decode cX13_ages 65 = .ok (.iadd, 1) := by decide +kernel
theorem dX13_ages_66 : decode cX13_ages 66 = .ok (.iload 6, 2) := by decide +kernel
theorem dX13_ages_68 : decode cX13_ages 68 = .ok (.iadd, 1) := by decide +kernel
theorem dX13_ages_69 : decode cX13_ages 69 = .ok (.iconst 0, 1) := by decide +kernel
theorem dX13_ages_70 : decode cX13_ages 70 = .ok (.iastore, 1) := by decide +kernel
theorem dX13_ages_71 : decode cX13_ages 71 = .ok (.iinc 6 1, 3) := by decide +kernel
theorem dX13_ages_74 : decode cX13_ages 74 = .ok (.goto (-25), 3) := by decide +kernel
theorem dX13_ages_77 : decode cX13_ages 77 = .ok (.iload 5, 2) := by decide +kernel
theorem dX13_ages_79 : decode cX13_ages 79 = .ok (.ifCond .ne 6, 3) := by decide +kernel
theorem dX13_ages_82 : decode cX13_ages 82 = .ok (.goto 73, 3) := by decide +kernel
theorem dX13_ages_85 : decode cX13_ages 85 = .ok (.aload_n 0, 1) := by decide +kernel
theorem dX13_ages_86 : decode cX13_ages 86 = .ok (.getfield 7, 3) := by decide +kernel
theorem dX13_ages_89 : decode cX13_ages 89 = .ok (.sipush 190, 3) := by decide +kernel
theorem dX13_ages_92 : decode cX13_ages 92 = .ok (.iconst 3, 1) := by decide +kernel
theorem dX13_ages_93 : decode cX13_ages 93 = .ok (.aload_n 0, 1) := by decide +kernel
theorem dX13_ages_94 : decode cX13_ages 94 = .ok (.getfield 7, 3) := by decide +kernel
theorem dX13_ages_97 : decode cX13_ages 97 = .ok (.iconst 0, 1) := by decide +kernel
theorem dX13_ages_98 : decode cX13_ages 98 = .ok (.iaload, 1) := by decide +kernel
theorem dX13_ages_99 : decode cX13_ages 99 = .ok (.imul, 1) := by decide +kernel
theorem dX13_ages_100 : decode cX13_ages 100 = .ok (.iadd, 1) := by decide +kernel
theorem dX13_ages_101 : decode cX13_ages 101 = .ok (.iload_n 3, 1) := by decide +kernel
theorem dX13_ages_102 : decode cX13_ages 102 = .ok (.iastore, 1) := by decide +kernel
theorem dX13_ages_103 : decode cX13_ages 103 = .ok (.aload_n 0, 1) := by decide +kernel
theorem dX13_ages_104 : decode cX13_ages 104 = .ok (.getfield 7, 3) := by decide +kernel
theorem dX13_ages_107 : decode cX13_ages 107 = .ok (.sipush 190, 3) := by decide +kernel
theorem dX13_ages_110 : decode cX13_ages 110 = .ok (.iconst 3, 1) := by decide +kernel
theorem dX13_ages_111 : decode cX13_ages 111 = .ok (.aload_n 0, 1) := by decide +kernel
theorem dX13_ages_112 : decode cX13_ages 112 = .ok (.getfield 7, 3) := by decide +kernel
theorem dX13_ages_115 : decode cX13_ages 115 = .ok (.iconst 0, 1) := by decide +kernel
theorem dX13_ages_116 : decode cX13_ages 116 = .ok (.iaload, 1) := by decide +kernel
theorem dX13_ages_117 : decode cX13_ages 117 = .ok (.imul, 1) := by decide +kernel
theorem dX13_ages_118 : decode cX13_ages 118 = .ok (.iadd, 1) := by decide +kernel
theorem dX13_ages_119 : decode cX13_ages 119 = .ok (.iconst 1, 1) := by decide +kernel
theorem dX13_ages_120 : decode cX13_ages 120 = .ok (.iadd, 1) := by decide +kernel
theorem dX13_ages_121 : decode cX13_ages 121 = .ok (.iload 4, 2) := by decide +kernel
theorem dX13_ages_123 : decode cX13_ages 123 = .ok (.iastore, 1) := by decide +kernel
theorem dX13_ages_124 : decode cX13_ages 124 = .ok (.aload_n 0, 1) := by decide +kernel
theorem dX13_ages_125 : decode cX13_ages 125 = .ok (.getfield 7, 3) := by decide +kernel
theorem dX13_ages_128 : decode cX13_ages 128 = .ok (.sipush 190, 3) := by decide +kernel
theorem dX13_ages_131 : decode cX13_ages 131 = .ok (.iconst 3, 1) := by decide +kernel
theorem dX13_ages_132 : decode cX13_ages 132 = .ok (.aload_n 0, 1) := by decide +kernel
theorem dX13_ages_133 : decode cX13_ages 133 = .ok (.getfield 7, 3) := by decide +kernel
theorem dX13_ages_136 : decode cX13_ages 136 = .ok (.iconst 0, 1) := by decide +kernel
theorem dX13_ages_137 : decode cX13_ages 137 = .ok (.iaload, 1) := by decide +kernel
theorem dX13_ages_138 : decode cX13_ages 138 = .ok (.imul, 1) := by decide +kernel
theorem dX13_ages_139 : decode cX13_ages 139 = .ok (.iadd, 1) := by decide +kernel
theorem dX13_ages_140 : decode cX13_ages 140 = .ok (.iconst 2, 1) := by decide +kernel
theorem dX13_ages_141 : decode cX13_ages 141 = .ok (.iadd, 1) := by decide +kernel
theorem dX13_ages_142 : decode cX13_ages 142 = .ok (.iload 5, 2) := by decide +kernel
theorem dX13_ages_144 : decode cX13_ages 144 = .ok (.iastore, 1) := by decide +kernel
theorem dX13_ages_145 : decode cX13_ages 145 = .ok (.aload_n 0, 1) := by decide +kernel
theorem dX13_ages_146 : decode cX13_ages 146 = .ok (.getfield 7, 3) := by decide +kernel
theorem dX13_ages_149 : decode cX13_ages 149 = .ok (.iconst 0, 1) := by decide +kernel
theorem dX13_ages_150 : decode cX13_ages 150 = .ok (.dup2, 1) := by decide +kernel
theorem dX13_ages_151 : decode cX13_ages 151 = .ok (.iaload, 1) := by decide +kernel
theorem dX13_ages_152 : decode cX13_ages 152 = .ok (.iconst 1, 1) := by decide +kernel
theorem dX13_ages_153 : decode cX13_ages 153 = .ok (.iadd, 1) := by decide +kernel
theorem dX13_ages_154 : decode cX13_ages 154 = .ok (.iastore, 1) := by decide +kernel
theorem dX13_ages_155 : decode cX13_ages 155 = .ok (.iinc 2 1, 3) := by decide +kernel
theorem dX13_ages_158 : decode cX13_ages 158 = .ok (.goto (-142), 3) := by decide +kernel
theorem dX13_ages_161 : decode cX13_ages 161 = .ok (.return_, 1) := by decide +kernel
set_option maxRecDepth 20000 in
theorem ggX13_ends_X13_grows : GoodIn wsX13_ends wsX13_grows := goodIn_r _ [6, 1, 7, 8, 9, 5, 10, 11, 12, 13, 14, 15, 16, 17, 18, 19, 20, 21, 30, 31, 32, 33, 34, 35, 36, 37, 38, 39, 40, 41, 42, 43, 44, 45, 46, 47, 48, 49, 50, 51, 52, 53, 54, 55, 56] (by decide +kernel) (by decide +kernel)
set_option maxRecDepth 20000 in
theorem gX13_ends_X13_grows : GoodIn wsX13_ends (wsV RX13 227 RX13 yX13_grows wsX13_grows) := goodIn_app (goodIn_of _ (by decide +kernel)) ggX13_ends_X13_grows
set_option maxRecDepth 20000 in
theorem ggX13_ends_X13_ages : GoodIn wsX13_ends wsX13_ages := goodIn_r _ [25, 1, 26, 27, 28, 5, 29, 30, 31, 32, 33, 34, 35, 36, 37, 38, 39, 40, 41, 42, 43, 44, 45, 46, 47, 48, 49, 50, 51, 52, 53, 54, 55, 56] (by decide +kernel) (by decide +kernel)
set_option maxRecDepth 20000 in
theorem gX13_ends_X13_ages : GoodIn wsX13_ends (wsV RX13 230 RX13 yX13_ages wsX13_ages) := goodIn_app (goodIn_of _ (by decide +kernel)) ggX13_ends_X13_ages
theorem dX13_ends_0 : decode cX13_ends 0 = .ok (.aload_n 0, 1) := by decide +kernel
theorem dX13_ends_1 : decode cX13_ends 1 = .ok (.invokevirtual 227, 3) := by decide +kernel
theorem dX13_ends_4 : decode cX13_ends 4 = .ok (.istore_n 1, 1) := by decide +kernel
theorem dX13_ends_5 : decode cX13_ends 5 = .ok (.aload_n 0, 1) := by decide +kernel
theorem dX13_ends_6 : decode cX13_ends 6 = .ok (.invokevirtual 230, 3) := by decide +kernel
theorem dX13_ends_9 : decode cX13_ends 9 = .ok (.aload_n 0, 1) := by decide +kernel
theorem dX13_ends_10 : decode cX13_ends 10 = .ok (.getfield 7, 3) := by decide +kernel
theorem dX13_ends_13 : decode cX13_ends 13 = .ok (.iconst 2, 1) := by decide +kernel
theorem dX13_ends_14 : decode cX13_ends 14 = .ok (.dup2, 1) := by decide +kernel
theorem dX13_ends_15 : decode cX13_ends 15 = .ok (.iaload, 1) := by decide +kernel
theorem dX13_ends_16 : decode cX13_ends 16 = .ok (.iconst 1, 1) := by decide +kernel
theorem dX13_ends_17 : decode cX13_ends 17 = .ok (.iadd, 1) := by decide +kernel
theorem dX13_ends_18 : decode cX13_ends 18 = .ok (.iastore, 1) := by decide +kernel
theorem dX13_ends_19 : decode cX13_ends 19 = .ok (.iconst 0, 1) := by decide +kernel
theorem dX13_ends_20 : decode cX13_ends 20 = .ok (.istore_n 2, 1) := by decide +kernel
theorem dX13_ends_21 : decode cX13_ends 21 = .ok (.iload_n 2, 1) := by decide +kernel
theorem dX13_ends_22 : decode cX13_ends 22 = .ok (.bipush 12, 2) := by decide +kernel
theorem dX13_ends_24 : decode cX13_ends 24 = .ok (.if_icmp .ge 19, 3) := by decide +kernel
theorem dX13_ends_27 : decode cX13_ends 27 = .ok (.aload_n 0, 1) := by decide +kernel
theorem dX13_ends_28 : decode cX13_ends 28 = .ok (.getfield 7, 3) := by decide +kernel
theorem dX13_ends_31 : decode cX13_ends 31 = .ok (.bipush 34, 2) := by decide +kernel
theorem dX13_ends_33 : decode cX13_ends 33 = .ok (.iload_n 2, 1) := by decide +kernel
theorem dX13_ends_34 : decode cX13_ends 34 = .ok (.iadd, 1) := by decide +kernel
theorem dX13_ends_35 : decode cX13_ends 35 = .ok (.iconst 0, 1) := by decide +kernel
theorem dX13_ends_36 : decode cX13_ends 36 = .ok (.iastore, 1) := by decide +kernel
theorem dX13_ends_37 : decode cX13_ends 37 = .ok (.iinc 2 1, 3) := by decide +kernel
theorem dX13_ends_40 : decode cX13_ends 40 = .ok (.goto (-19), 3) := by decide +kernel
theorem dX13_ends_43 : decode cX13_ends 43 = .ok (.iload_n 1, 1) := by decide +kernel
theorem dX13_ends_44 : decode cX13_ends 44 = .ok (.ireturn, 1) := by decide +kernel
set_option maxRecDepth 20000 in
theorem ggX13_day_X13_begins : GoodIn wsX13_day wsX13_begins := goodIn_r _ [5, 6, 7, 8, 9, 4, 10, 48, 49, 50, 51, 52, 53, 54, 55, 56, 57, 58, 59, 60, 61, 62, 63, 64, 65, 66, 67, 68, 69, 70, 71, 72, 73, 74] (by decide +kernel) (by decide +kernel)
set_option maxRecDepth 20000 in
theorem gX13_day_X13_begins : GoodIn wsX13_day (wsV RX13 135 RX13 yX13_begins wsX13_begins) := goodIn_app (goodIn_of _ (by decide +kernel)) ggX13_day_X13_begins
set_option maxRecDepth 20000 in
theorem ggX13_day_X13_ends : GoodIn wsX13_day wsX13_ends := goodIn_r _ [14, 6, 15, 16, 17, 4, 18, 19, 20, 21, 22, 23, 24, 25, 26, 27, 28, 29, 30, 31, 32, 33, 34, 35, 36, 37, 38, 39, 40, 41, 48, 49, 50, 51, 52, 53, 54, 55, 56, 57, 58, 59, 60, 61, 62, 63, 64, 65, 66, 67, 68, 69, 70, 71, 72, 73, 74] (by decide +kernel) (by decide +kernel)
set_option maxRecDepth 20000 in
theorem gX13_day_X13_ends : GoodIn wsX13_day (wsV RX13 233 RX13 yX13_ends wsX13_ends) := goodIn_app (goodIn_of _ (by decide +kernel)) ggX13_day_X13_ends
set_option maxRecDepth 20000 in
theorem ggX13_day_X13_keeps : GoodIn wsX13_day wsX13_keeps := goodIn_r _ [45, 46, 47, 7, 8, 9, 4, 10, 48, 49, 50, 51, 52, 53, 54, 55, 56, 57, 58, 59, 60, 61, 62, 63, 64, 65, 66, 67, 68, 69, 70, 71, 72, 73, 74] (by decide +kernel) (by decide +kernel)
set_option maxRecDepth 20000 in
theorem gX13_day_X13_keeps : GoodIn wsX13_day (wsV RX13 154 RX13 yX13_keeps wsX13_keeps) := goodIn_app (goodIn_of _ (by decide +kernel)) ggX13_day_X13_keeps
theorem dX13_day_0 : decode cX13_day 0 = .ok (.aload_n 0, 1) := by decide +kernel
theorem dX13_day_1 : decode cX13_day 1 = .ok (.invokevirtual 135, 3) := by decide +kernel
theorem dX13_day_4 : decode cX13_day 4 = .ok (.aload_n 0, 1) := by decide +kernel
theorem dX13_day_5 : decode cX13_day 5 = .ok (.aload_n 0, 1) := by decide +kernel
theorem dX13_day_6 : decode cX13_day 6 = .ok (.invokevirtual 233, 3) := by decide +kernel
theorem dX13_day_9 : decode cX13_day 9 = .ok (.invokevirtual 154, 3) := by decide +kernel
theorem dX13_day_12 : decode cX13_day 12 = .ok (.ireturn, 1) := by decide +kernel
set_option maxRecDepth 20000 in
theorem ggX13_linesAt_X13_linePart : GoodIn wsX13_linesAt wsX13_linePart := goodIn_r _ [6, 1, 7, 8, 9, 10, 11, 12, 13, 14, 15, 16, 17, 18, 19, 20, 21, 22, 23, 24, 25, 26, 27, 28, 29, 30, 31, 32, 33] (by decide +kernel) (by decide +kernel)
set_option maxRecDepth 20000 in
theorem gX13_linesAt_X13_linePart : GoodIn wsX13_linesAt (wsV RX13 108 RX13 yX13_linePart wsX13_linePart) := goodIn_app (goodIn_of _ (by decide +kernel)) ggX13_linesAt_X13_linePart
theorem dX13_linesAt_0 : decode cX13_linesAt 0 = .ok (.iconst 0, 1) := by decide +kernel
theorem dX13_linesAt_1 : decode cX13_linesAt 1 = .ok (.istore_n 2, 1) := by decide +kernel
theorem dX13_linesAt_2 : decode cX13_linesAt 2 = .ok (.iconst 0, 1) := by decide +kernel
theorem dX13_linesAt_3 : decode cX13_linesAt 3 = .ok (.istore_n 3, 1) := by decide +kernel
theorem dX13_linesAt_4 : decode cX13_linesAt 4 = .ok (.iload_n 3, 1) := by decide +kernel
theorem dX13_linesAt_5 : decode cX13_linesAt 5 = .ok (.aload_n 0, 1) := by decide +kernel
theorem dX13_linesAt_6 : decode cX13_linesAt 6 = .ok (.getfield 7, 3) := by decide +kernel
theorem dX13_linesAt_9 : decode cX13_linesAt 9 = .ok (.iconst 0, 1) := by decide +kernel
theorem dX13_linesAt_10 : decode cX13_linesAt 10 = .ok (.iaload, 1) := by decide +kernel
theorem dX13_linesAt_11 : decode cX13_linesAt 11 = .ok (.if_icmp .ge 37, 3) := by decide +kernel
theorem dX13_linesAt_14 : decode cX13_linesAt 14 = .ok (.iload_n 2, 1) := by decide +kernel
theorem dX13_linesAt_15 : decode cX13_linesAt 15 = .ok (.aload_n 0, 1) := by decide +kernel
theorem dX13_linesAt_16 : decode cX13_linesAt 16 = .ok (.iload_n 3, 1) := by decide +kernel
theorem dX13_linesAt_17 : decode cX13_linesAt 17 = .ok (.iconst 0, 1) := by decide +kernel
theorem dX13_linesAt_18 : decode cX13_linesAt 18 = .ok (.invokevirtual 108, 3) := by decide +kernel
theorem dX13_linesAt_21 : decode cX13_linesAt 21 = .ok (.iload_n 1, 1) := by decide +kernel
theorem dX13_linesAt_22 : decode cX13_linesAt 22 = .ok (.if_icmp .eq 13, 3) := by decide +kernel
theorem dX13_linesAt_25 : decode cX13_linesAt 25 = .ok (.aload_n 0, 1) := by decide +kernel
theorem dX13_linesAt_26 : decode cX13_linesAt 26 = .ok (.iload_n 3, 1) := by decide +kernel
theorem dX13_linesAt_27 : decode cX13_linesAt 27 = .ok (.iconst 1, 1) := by decide +kernel
theorem dX13_linesAt_28 : decode cX13_linesAt 28 = .ok (.invokevirtual 108, 3) := by decide +kernel
theorem dX13_linesAt_31 : decode cX13_linesAt 31 = .ok (.iload_n 1, 1) := by decide +kernel
theorem dX13_linesAt_32 : decode cX13_linesAt 32 = .ok (.if_icmp .ne 7, 3) := by decide +kernel
theorem dX13_linesAt_35 : decode cX13_linesAt 35 = .ok (.iconst 1, 1) := by decide +kernel
theorem dX13_linesAt_36 : decode cX13_linesAt 36 = .ok (.goto 4, 3) := by decide +kernel
theorem dX13_linesAt_39 : decode cX13_linesAt 39 = .ok (.iconst 0, 1) := by decide +kernel
theorem dX13_linesAt_40 : decode cX13_linesAt 40 = .ok (.iadd, 1) := by decide +kernel
theorem dX13_linesAt_41 : decode cX13_linesAt 41 = .ok (.istore_n 2, 1) := by decide +kernel
theorem dX13_linesAt_42 : decode cX13_linesAt 42 = .ok (.iinc 3 1, 3) := by decide +kernel
theorem dX13_linesAt_45 : decode cX13_linesAt 45 = .ok (.goto (-41), 3) := by decide +kernel
theorem dX13_linesAt_48 : decode cX13_linesAt 48 = .ok (.iload_n 2, 1) := by decide +kernel
theorem dX13_linesAt_49 : decode cX13_linesAt 49 = .ok (.ireturn, 1) := by decide +kernel
set_option maxRecDepth 20000 in
theorem ggX13_balconyOf_X13_isBalcony : GoodIn wsX13_balconyOf wsX13_isBalcony := goodIn_r _ [5, 6, 7, 4, 8] (by decide +kernel) (by decide +kernel)
set_option maxRecDepth 20000 in
theorem gX13_balconyOf_X13_isBalcony : GoodIn wsX13_balconyOf (va_wsS RX13 138 yX13_isBalcony wsX13_isBalcony) := goodIn_app (goodIn_of _ (by decide +kernel)) ggX13_balconyOf_X13_isBalcony
set_option maxRecDepth 20000 in
theorem ggX13_balconyOf_X13_plants : GoodIn wsX13_balconyOf wsX13_plants := goodIn_r _ [12, 1, 64, 65, 66, 67, 68, 69, 70, 71, 72, 73, 74, 75, 76, 77, 78, 79, 80, 81, 82, 83, 84, 85, 86, 87, 88, 89, 90] (by decide +kernel) (by decide +kernel)
set_option maxRecDepth 20000 in
theorem gX13_balconyOf_X13_plants : GoodIn wsX13_balconyOf (wsV RX13 104 RX13 yX13_plants wsX13_plants) := goodIn_app (goodIn_of _ (by decide +kernel)) ggX13_balconyOf_X13_plants
set_option maxRecDepth 20000 in
theorem ggX13_balconyOf_X13_catOn : GoodIn wsX13_balconyOf wsX13_catOn := goodIn_r _ [16, 1, 17, 18, 19, 4, 20, 64, 65, 66, 67, 68, 69, 70, 71, 72, 73, 74, 75, 76, 77, 78, 79, 80, 81, 82, 83, 84, 85, 86, 87, 88, 89, 90] (by decide +kernel) (by decide +kernel)
set_option maxRecDepth 20000 in
theorem gX13_balconyOf_X13_catOn : GoodIn wsX13_balconyOf (wsV RX13 203 RX13 yX13_catOn wsX13_catOn) := goodIn_app (goodIn_of _ (by decide +kernel)) ggX13_balconyOf_X13_catOn
set_option maxRecDepth 20000 in
theorem ggX13_balconyOf_X13_feudsOf : GoodIn wsX13_balconyOf wsX13_feudsOf := goodIn_r _ [24, 25, 26, 27, 4, 28, 29, 30, 31, 32, 1, 33, 34, 35, 9, 10, 11, 12, 36, 37, 38, 39, 40, 41, 42, 43, 64, 65, 66, 67, 68, 69, 70, 71, 72, 73, 74, 75, 76, 77, 78, 79, 80, 81, 82, 83, 84, 85, 86, 87, 88, 89, 90] (by decide +kernel) (by decide +kernel)
set_option maxRecDepth 20000 in
theorem gX13_balconyOf_X13_feudsOf : GoodIn wsX13_balconyOf (wsV RX13 125 RX13 yX13_feudsOf wsX13_feudsOf) := goodIn_app (goodIn_of _ (by decide +kernel)) ggX13_balconyOf_X13_feudsOf
set_option maxRecDepth 20000 in
theorem ggX13_balconyOf_X13_given : GoodIn wsX13_balconyOf wsX13_given := goodIn_r _ [47, 48, 49, 50, 4, 51, 1, 64, 65, 66, 67, 68, 69, 70, 71, 72, 73, 74, 75, 76, 77, 78, 79, 80, 81, 82, 83, 84, 85, 86, 87, 88, 89, 90] (by decide +kernel) (by decide +kernel)
set_option maxRecDepth 20000 in
theorem gX13_balconyOf_X13_given : GoodIn wsX13_balconyOf (wsV RX13 197 RX13 yX13_given wsX13_given) := goodIn_app (goodIn_of _ (by decide +kernel)) ggX13_balconyOf_X13_given
set_option maxRecDepth 20000 in
theorem ggX13_balconyOf_X13_got : GoodIn wsX13_balconyOf wsX13_got := goodIn_r _ [55, 48, 49, 50, 4, 51, 1, 64, 65, 66, 67, 68, 69, 70, 71, 72, 73, 74, 75, 76, 77, 78, 79, 80, 81, 82, 83, 84, 85, 86, 87, 88, 89, 90] (by decide +kernel) (by decide +kernel)
set_option maxRecDepth 20000 in
theorem gX13_balconyOf_X13_got : GoodIn wsX13_balconyOf (wsV RX13 236 RX13 yX13_got wsX13_got) := goodIn_app (goodIn_of _ (by decide +kernel)) ggX13_balconyOf_X13_got
set_option maxRecDepth 20000 in
theorem ggX13_balconyOf_X13_linesAt : GoodIn wsX13_balconyOf wsX13_linesAt := goodIn_r _ [59, 1, 40, 41, 42, 4, 43, 64, 65, 66, 67, 68, 69, 70, 71, 72, 73, 74, 75, 76, 77, 78, 79, 80, 81, 82, 83, 84, 85, 86, 87, 88, 89, 90] (by decide +kernel) (by decide +kernel)
set_option maxRecDepth 20000 in
theorem gX13_balconyOf_X13_linesAt : GoodIn wsX13_balconyOf (wsV RX13 239 RX13 yX13_linesAt wsX13_linesAt) := goodIn_app (goodIn_of _ (by decide +kernel)) ggX13_balconyOf_X13_linesAt
set_option maxRecDepth 20000 in
theorem ggX13_balconyOf_X13_friends : GoodIn wsX13_balconyOf wsX13_friends := goodIn_r _ [63, 48, 49, 50, 4, 51, 1, 64, 65, 66, 67, 68, 69, 70, 71, 72, 73, 74, 75, 76, 77, 78, 79, 80, 81, 82, 83, 84, 85, 86, 87, 88, 89, 90] (by decide +kernel) (by decide +kernel)
set_option maxRecDepth 20000 in
theorem gX13_balconyOf_X13_friends : GoodIn wsX13_balconyOf (wsV RX13 242 RX13 yX13_friends wsX13_friends) := goodIn_app (goodIn_of _ (by decide +kernel)) ggX13_balconyOf_X13_friends
theorem dX13_balconyOf_0 : decode cX13_balconyOf 0 = .ok (.iload_n 1, 1) := by decide +kernel
theorem dX13_balconyOf_1 : decode cX13_balconyOf 1 = .ok (.invokestatic 138, 3) := by decide +kernel
theorem dX13_balconyOf_4 : decode cX13_balconyOf 4 = .ok (.ifCond .ne 5, 3) := by decide +kernel
theorem dX13_balconyOf_7 : decode cX13_balconyOf 7 = .ok (.iconst (-1), 1) := by decide +kernel
theorem dX13_balconyOf_8 : decode cX13_balconyOf 8 = .ok (.ireturn, 1) := by decide +kernel
theorem dX13_balconyOf_9 : decode cX13_balconyOf 9 = .ok (.iload_n 2, 1) := by decide +kernel
theorem dX13_balconyOf_10 : decode cX13_balconyOf 10 = .ok (.tableswitch 98 0 7 #[46, 52, 62, 68, 74, 80, 86, 92], 46) := by decide +kernel
theorem dX13_balconyOf_56 : decode cX13_balconyOf 56 = .ok (.aload_n 0, 1) := by decide +kernel
theorem dX13_balconyOf_57 : decode cX13_balconyOf 57 = .ok (.iload_n 1, 1) := by decide +kernel
theorem dX13_balconyOf_58 : decode cX13_balconyOf 58 = .ok (.invokevirtual 104, 3) := by decide +kernel
theorem dX13_balconyOf_61 : decode cX13_balconyOf 61 = .ok (.ireturn, 1) := by decide +kernel
theorem dX13_balconyOf_62 : decode cX13_balconyOf 62 = .ok (.aload_n 0, 1) := by decide +kernel
theorem dX13_balconyOf_63 : decode cX13_balconyOf 63 = .ok (.getfield 7, 3) := by decide +kernel
theorem dX13_balconyOf_66 : decode cX13_balconyOf 66 = .ok (.bipush 22, 2) := by decide +kernel
theorem dX13_balconyOf_68 : decode cX13_balconyOf 68 = .ok (.iload_n 1, 1) := by decide +kernel
theorem dX13_balconyOf_69 : decode cX13_balconyOf 69 = .ok (.iadd, 1) := by decide +kernel
theorem dX13_balconyOf_70 : decode cX13_balconyOf 70 = .ok (.iaload, 1) := by decide +kernel
theorem dX13_balconyOf_71 : decode cX13_balconyOf 71 = .ok (.ireturn, 1) := by decide +kernel
theorem dX13_balconyOf_72 : decode cX13_balconyOf 72 = .ok (.aload_n 0, 1) := by decide +kernel
theorem dX13_balconyOf_73 : decode cX13_balconyOf 73 = .ok (.iload_n 1, 1) := by decide +kernel
theorem dX13_balconyOf_74 : decode cX13_balconyOf 74 = .ok (.invokevirtual 203, 3) := by decide +kernel
theorem dX13_balconyOf_77 : decode cX13_balconyOf 77 = .ok (.ireturn, 1) := by decide +kernel
theorem dX13_balconyOf_78 : decode cX13_balconyOf 78 = .ok (.aload_n 0, 1) := by decide +kernel
theorem dX13_balconyOf_79 : decode cX13_balconyOf 79 = .ok (.iload_n 1, 1) := by decide +kernel
theorem dX13_balconyOf_80 : decode cX13_balconyOf 80 = .ok (.invokevirtual 125, 3) := by decide +kernel
theorem dX13_balconyOf_83 : decode cX13_balconyOf 83 = .ok (.ireturn, 1) := by decide +kernel
theorem dX13_balconyOf_84 : decode cX13_balconyOf 84 = .ok (.aload_n 0, 1) := by decide +kernel
theorem dX13_balconyOf_85 : decode cX13_balconyOf 85 = .ok (.iload_n 1, 1) := by decide +kernel
theorem dX13_balconyOf_86 : decode cX13_balconyOf 86 = .ok (.invokevirtual 197, 3) := by decide +kernel
theorem dX13_balconyOf_89 : decode cX13_balconyOf 89 = .ok (.ireturn, 1) := by decide +kernel
theorem dX13_balconyOf_90 : decode cX13_balconyOf 90 = .ok (.aload_n 0, 1) := by decide +kernel
theorem dX13_balconyOf_91 : decode cX13_balconyOf 91 = .ok (.iload_n 1, 1) := by decide +kernel
theorem dX13_balconyOf_92 : decode cX13_balconyOf 92 = .ok (.invokevirtual 236, 3) := by decide +kernel
theorem dX13_balconyOf_95 : decode cX13_balconyOf 95 = .ok (.ireturn, 1) := by decide +kernel
theorem dX13_balconyOf_96 : decode cX13_balconyOf 96 = .ok (.aload_n 0, 1) := by decide +kernel
theorem dX13_balconyOf_97 : decode cX13_balconyOf 97 = .ok (.iload_n 1, 1) := by decide +kernel
theorem dX13_balconyOf_98 : decode cX13_balconyOf 98 = .ok (.invokevirtual 239, 3) := by decide +kernel
theorem dX13_balconyOf_101 : decode cX13_balconyOf 101 = .ok (.ireturn, 1) := by decide +kernel
theorem dX13_balconyOf_102 : decode cX13_balconyOf 102 = .ok (.aload_n 0, 1) := by decide +kernel
theorem dX13_balconyOf_103 : decode cX13_balconyOf 103 = .ok (.iload_n 1, 1) := by decide +kernel
theorem dX13_balconyOf_104 : decode cX13_balconyOf 104 = .ok (.invokevirtual 242, 3) := by decide +kernel
theorem dX13_balconyOf_107 : decode cX13_balconyOf 107 = .ok (.ireturn, 1) := by decide +kernel
theorem dX13_balconyOf_108 : decode cX13_balconyOf 108 = .ok (.bipush (-2), 2) := by decide +kernel
theorem dX13_balconyOf_110 : decode cX13_balconyOf 110 = .ok (.ireturn, 1) := by decide +kernel
set_option maxRecDepth 20000 in
theorem ggX13_feud_X13_areTwo : GoodIn wsX13_feud wsX13_areTwo := goodIn_r _ [4, 5, 6, 3, 7, 8, 9, 10] (by decide +kernel) (by decide +kernel)
set_option maxRecDepth 20000 in
theorem gX13_feud_X13_areTwo : GoodIn wsX13_feud (va_wsS RX13 169 yX13_areTwo wsX13_areTwo) := goodIn_app (goodIn_of _ (by decide +kernel)) ggX13_feud_X13_areTwo
set_option maxRecDepth 20000 in
theorem ggX13_feud_X13_areFeuding : GoodIn wsX13_feud wsX13_areFeuding := goodIn_r _ [14, 15, 16, 17, 3, 18, 19, 20, 21, 22, 23, 24, 25, 26, 27, 28, 29, 30, 31, 32, 33, 34, 35, 36, 37, 38, 39, 40, 41, 42, 43, 44, 45, 46, 47, 48, 49, 50, 51, 52, 53, 54, 55, 56, 57, 58, 59, 60, 61] (by decide +kernel) (by decide +kernel)
set_option maxRecDepth 20000 in
theorem gX13_feud_X13_areFeuding : GoodIn wsX13_feud (wsV RX13 122 RX13 yX13_areFeuding wsX13_areFeuding) := goodIn_app (goodIn_of _ (by decide +kernel)) ggX13_feud_X13_areFeuding
theorem dX13_feud_0 : decode cX13_feud 0 = .ok (.iload_n 1, 1) := by decide +kernel
theorem dX13_feud_1 : decode cX13_feud 1 = .ok (.iload_n 2, 1) := by decide +kernel
theorem dX13_feud_2 : decode cX13_feud 2 = .ok (.invokestatic 169, 3) := by decide +kernel
theorem dX13_feud_5 : decode cX13_feud 5 = .ok (.ifCond .ne 7, 3) := by decide +kernel
theorem dX13_feud_8 : decode cX13_feud 8 = .ok (.iconst (-1), 1) := by decide +kernel
theorem dX13_feud_9 : decode cX13_feud 9 = .ok (.goto 17, 3) := by decide +kernel
theorem dX13_feud_12 : decode cX13_feud 12 = .ok (.aload_n 0, 1) := by decide +kernel
theorem dX13_feud_13 : decode cX13_feud 13 = .ok (.iload_n 1, 1) := by decide +kernel
theorem dX13_feud_14 : decode cX13_feud 14 = .ok (.iload_n 2, 1) := by decide +kernel
theorem dX13_feud_15 : decode cX13_feud 15 = .ok (.invokevirtual 122, 3) := by decide +kernel
theorem dX13_feud_18 : decode cX13_feud 18 = .ok (.ifCond .eq 7, 3) := by decide +kernel
theorem dX13_feud_21 : decode cX13_feud 21 = .ok (.iconst 1, 1) := by decide +kernel
theorem dX13_feud_22 : decode cX13_feud 22 = .ok (.goto 4, 3) := by decide +kernel
theorem dX13_feud_25 : decode cX13_feud 25 = .ok (.iconst 0, 1) := by decide +kernel
theorem dX13_feud_26 : decode cX13_feud 26 = .ok (.ireturn, 1) := by decide +kernel
set_option maxRecDepth 20000 in
theorem ggX13_greeted_X13_areTwo : GoodIn wsX13_greeted wsX13_areTwo := goodIn_r _ [4, 5, 6, 3, 7, 8, 9, 10] (by decide +kernel) (by decide +kernel)
set_option maxRecDepth 20000 in
theorem gX13_greeted_X13_areTwo : GoodIn wsX13_greeted (va_wsS RX13 169 yX13_areTwo wsX13_areTwo) := goodIn_app (goodIn_of _ (by decide +kernel)) ggX13_greeted_X13_areTwo
set_option maxRecDepth 20000 in
theorem ggX13_greeted_X13_greetings : GoodIn wsX13_greeted wsX13_greetings := goodIn_r _ [14, 15, 16, 17, 18, 19, 20, 21, 22, 23, 24, 25, 26, 27, 28, 29, 30, 31, 32, 33, 34, 35, 36, 37, 38, 39, 40, 41, 42] (by decide +kernel) (by decide +kernel)
set_option maxRecDepth 20000 in
theorem gX13_greeted_X13_greetings : GoodIn wsX13_greeted (wsV RX13 182 RX13 yX13_greetings wsX13_greetings) := goodIn_app (goodIn_of _ (by decide +kernel)) ggX13_greeted_X13_greetings
theorem dX13_greeted_0 : decode cX13_greeted 0 = .ok (.iload_n 1, 1) := by decide +kernel
theorem dX13_greeted_1 : decode cX13_greeted 1 = .ok (.iload_n 2, 1) := by decide +kernel
theorem dX13_greeted_2 : decode cX13_greeted 2 = .ok (.invokestatic 169, 3) := by decide +kernel
theorem dX13_greeted_5 : decode cX13_greeted 5 = .ok (.ifCond .eq 12, 3) := by decide +kernel
theorem dX13_greeted_8 : decode cX13_greeted 8 = .ok (.aload_n 0, 1) := by decide +kernel
theorem dX13_greeted_9 : decode cX13_greeted 9 = .ok (.iload_n 1, 1) := by decide +kernel
theorem dX13_greeted_10 : decode cX13_greeted 10 = .ok (.iload_n 2, 1) := by decide +kernel
theorem dX13_greeted_11 : decode cX13_greeted 11 = .ok (.invokevirtual 182, 3) := by decide +kernel
theorem dX13_greeted_14 : decode cX13_greeted 14 = .ok (.goto 4, 3) := by decide +kernel
theorem dX13_greeted_17 : decode cX13_greeted 17 = .ok (.iconst (-1), 1) := by decide +kernel
theorem dX13_greeted_18 : decode cX13_greeted 18 = .ok (.ireturn, 1) := by decide +kernel
set_option maxRecDepth 20000 in
theorem ggX13_catOf_X13_in : GoodIn wsX13_catOf wsX13_in := goodIn_r _ [5] (by decide +kernel) (by decide +kernel)
set_option maxRecDepth 20000 in
theorem gX13_catOf_X13_in : GoodIn wsX13_catOf (va_wsS RX13 100 yX13_in wsX13_in) := goodIn_app (goodIn_of _ (by decide +kernel)) ggX13_catOf_X13_in
set_option maxRecDepth 20000 in
theorem ggX13_catOf_X13_catPart : GoodIn wsX13_catOf wsX13_catPart := goodIn_r _ [9, 1, 50, 51, 52, 53, 54, 55, 56, 57, 58, 59, 60, 61, 62, 63, 64, 65, 66, 67, 68, 69, 70, 71, 72, 73, 74, 75, 76] (by decide +kernel) (by decide +kernel)
set_option maxRecDepth 20000 in
theorem gX13_catOf_X13_catPart : GoodIn wsX13_catOf (wsV RX13 200 RX13 yX13_catPart wsX13_catPart) := goodIn_app (goodIn_of _ (by decide +kernel)) ggX13_catOf_X13_catPart
set_option maxRecDepth 20000 in
theorem ggX13_catOf_X13_fewest : GoodIn wsX13_catOf wsX13_fewest := goodIn_r _ [13, 14, 15, 16, 17, 4, 18, 19, 20, 21, 22, 23, 24, 25, 26, 27, 28, 29, 30, 31, 32, 33, 34, 1, 35, 36, 37, 38, 39, 40, 41, 42, 43, 44, 45, 46, 47, 48, 49, 50, 51, 52, 53, 54, 55, 56, 57, 58, 59, 60, 61, 62, 63, 64, 65, 66, 67, 68, 69, 70, 71, 72, 73, 74, 75, 76] (by decide +kernel) (by decide +kernel)
set_option maxRecDepth 20000 in
theorem gX13_catOf_X13_fewest : GoodIn wsX13_catOf (wsV RX13 245 RX13 yX13_fewest wsX13_fewest) := goodIn_app (goodIn_of _ (by decide +kernel)) ggX13_catOf_X13_fewest
theorem dX13_catOf_0 : decode cX13_catOf 0 = .ok (.iload_n 1, 1) := by decide +kernel
theorem dX13_catOf_1 : decode cX13_catOf 1 = .ok (.iconst 0, 1) := by decide +kernel
theorem dX13_catOf_2 : decode cX13_catOf 2 = .ok (.aload_n 0, 1) := by decide +kernel
theorem dX13_catOf_3 : decode cX13_catOf 3 = .ok (.getfield 7, 3) := by decide +kernel
theorem dX13_catOf_6 : decode cX13_catOf 6 = .ok (.iconst 1, 1) := by decide +kernel
theorem dX13_catOf_7 : decode cX13_catOf 7 = .ok (.iaload, 1) := by decide +kernel
theorem dX13_catOf_8 : decode cX13_catOf 8 = .ok (.iconst 1, 1) := by decide +kernel
theorem dX13_catOf_9 : decode cX13_catOf 9 = .ok (.isub, 1) := by decide +kernel
theorem dX13_catOf_10 : decode cX13_catOf 10 = .ok (.invokestatic 100, 3) := by decide +kernel
theorem dX13_catOf_13 : decode cX13_catOf 13 = .ok (.ifCond .ne 5, 3) := by decide +kernel
theorem dX13_catOf_16 : decode cX13_catOf 16 = .ok (.iconst (-1), 1) := by decide +kernel
theorem dX13_catOf_17 : decode cX13_catOf 17 = .ok (.ireturn, 1) := by decide +kernel
theorem dX13_catOf_18 : decode cX13_catOf 18 = .ok (.iload_n 2, 1) := by decide +kernel
theorem dX13_catOf_19 : decode cX13_catOf 19 = .ok (.iconst 0, 1) := by decide +kernel
theorem dX13_catOf_20 : decode cX13_catOf 20 = .ok (.iconst 3, 1) := by decide +kernel
theorem dX13_catOf_21 : decode cX13_catOf 21 = .ok (.invokestatic 100, 3) := by decide +kernel
theorem dX13_catOf_24 : decode cX13_catOf 24 = .ok (.ifCond .ne 6, 3) := by decide +kernel
theorem dX13_catOf_27 : decode cX13_catOf 27 = .ok (.bipush (-2), 2) := by decide +kernel
theorem dX13_catOf_29 : decode cX13_catOf 29 = .ok (.ireturn, 1) := by decide +kernel
theorem dX13_catOf_30 : decode cX13_catOf 30 = .ok (.iload_n 2, 1) := by decide +kernel
theorem dX13_catOf_31 : decode cX13_catOf 31 = .ok (.iconst 3, 1) := by decide +kernel
theorem dX13_catOf_32 : decode cX13_catOf 32 = .ok (.if_icmp .ge 12, 3) := by decide +kernel
theorem dX13_catOf_35 : decode cX13_catOf 35 = .ok (.aload_n 0, 1) := by decide +kernel
theorem dX13_catOf_36 : decode cX13_catOf 36 = .ok (.iload_n 1, 1) := by decide +kernel
theorem dX13_catOf_37 : decode cX13_catOf 37 = .ok (.iload_n 2, 1) := by decide +kernel
theorem dX13_catOf_38 : decode cX13_catOf 38 = .ok (.invokevirtual 200, 3) := by decide +kernel
theorem dX13_catOf_41 : decode cX13_catOf 41 = .ok (.goto 19, 3) := by decide +kernel
theorem dX13_catOf_44 : decode cX13_catOf 44 = .ok (.aload_n 0, 1) := by decide +kernel
theorem dX13_catOf_45 : decode cX13_catOf 45 = .ok (.aload_n 0, 1) := by decide +kernel
theorem dX13_catOf_46 : decode cX13_catOf 46 = .ok (.iload_n 1, 1) := by decide +kernel
theorem dX13_catOf_47 : decode cX13_catOf 47 = .ok (.iconst 0, 1) := by decide +kernel
theorem dX13_catOf_48 : decode cX13_catOf 48 = .ok (.invokevirtual 200, 3) := by decide +kernel
theorem dX13_catOf_51 : decode cX13_catOf 51 = .ok (.aload_n 0, 1) := by decide +kernel
theorem dX13_catOf_52 : decode cX13_catOf 52 = .ok (.iload_n 1, 1) := by decide +kernel
theorem dX13_catOf_53 : decode cX13_catOf 53 = .ok (.iconst 1, 1) := by decide +kernel
theorem dX13_catOf_54 : decode cX13_catOf 54 = .ok (.invokevirtual 200, 3) := by decide +kernel
theorem dX13_catOf_57 : decode cX13_catOf 57 = .ok (.invokevirtual 245, 3) := by decide +kernel
theorem dX13_catOf_60 : decode cX13_catOf 60 = .ok (.ireturn, 1) := by decide +kernel
set_option maxRecDepth 20000 in
theorem ggX13_lineOf_X13_in : GoodIn wsX13_lineOf wsX13_in := goodIn_r _ [5] (by decide +kernel) (by decide +kernel)
set_option maxRecDepth 20000 in
theorem gX13_lineOf_X13_in : GoodIn wsX13_lineOf (va_wsS RX13 100 yX13_in wsX13_in) := goodIn_app (goodIn_of _ (by decide +kernel)) ggX13_lineOf_X13_in
set_option maxRecDepth 20000 in
theorem ggX13_lineOf_X13_linePart : GoodIn wsX13_lineOf wsX13_linePart := goodIn_r _ [9, 1, 10, 11, 12, 13, 14, 15, 16, 17, 18, 19, 20, 21, 22, 23, 24, 25, 26, 27, 28, 29, 30, 31, 32, 33, 34, 35, 36] (by decide +kernel) (by decide +kernel)
set_option maxRecDepth 20000 in
theorem gX13_lineOf_X13_linePart : GoodIn wsX13_lineOf (wsV RX13 108 RX13 yX13_linePart wsX13_linePart) := goodIn_app (goodIn_of _ (by decide +kernel)) ggX13_lineOf_X13_linePart
theorem dX13_lineOf_0 : decode cX13_lineOf 0 = .ok (.iload_n 1, 1) := by decide +kernel
theorem dX13_lineOf_1 : decode cX13_lineOf 1 = .ok (.iconst 0, 1) := by decide +kernel
theorem dX13_lineOf_2 : decode cX13_lineOf 2 = .ok (.aload_n 0, 1) := by decide +kernel
theorem dX13_lineOf_3 : decode cX13_lineOf 3 = .ok (.getfield 7, 3) := by decide +kernel
theorem dX13_lineOf_6 : decode cX13_lineOf 6 = .ok (.iconst 0, 1) := by decide +kernel
theorem dX13_lineOf_7 : decode cX13_lineOf 7 = .ok (.iaload, 1) := by decide +kernel
theorem dX13_lineOf_8 : decode cX13_lineOf 8 = .ok (.iconst 1, 1) := by decide +kernel
theorem dX13_lineOf_9 : decode cX13_lineOf 9 = .ok (.isub, 1) := by decide +kernel
theorem dX13_lineOf_10 : decode cX13_lineOf 10 = .ok (.invokestatic 100, 3) := by decide +kernel
theorem dX13_lineOf_13 : decode cX13_lineOf 13 = .ok (.ifCond .ne 5, 3) := by decide +kernel
theorem dX13_lineOf_16 : decode cX13_lineOf 16 = .ok (.iconst (-1), 1) := by decide +kernel
theorem dX13_lineOf_17 : decode cX13_lineOf 17 = .ok (.ireturn, 1) := by decide +kernel
theorem dX13_lineOf_18 : decode cX13_lineOf 18 = .ok (.iload_n 2, 1) := by decide +kernel
theorem dX13_lineOf_19 : decode cX13_lineOf 19 = .ok (.iconst 0, 1) := by decide +kernel
theorem dX13_lineOf_20 : decode cX13_lineOf 20 = .ok (.iconst 2, 1) := by decide +kernel
theorem dX13_lineOf_21 : decode cX13_lineOf 21 = .ok (.invokestatic 100, 3) := by decide +kernel
theorem dX13_lineOf_24 : decode cX13_lineOf 24 = .ok (.ifCond .eq 12, 3) := by decide +kernel
theorem dX13_lineOf_27 : decode cX13_lineOf 27 = .ok (.aload_n 0, 1) := by decide +kernel
theorem dX13_lineOf_28 : decode cX13_lineOf 28 = .ok (.iload_n 1, 1) := by decide +kernel
theorem dX13_lineOf_29 : decode cX13_lineOf 29 = .ok (.iload_n 2, 1) := by decide +kernel
theorem dX13_lineOf_30 : decode cX13_lineOf 30 = .ok (.invokevirtual 108, 3) := by decide +kernel
theorem dX13_lineOf_33 : decode cX13_lineOf 33 = .ok (.goto 5, 3) := by decide +kernel
theorem dX13_lineOf_36 : decode cX13_lineOf 36 = .ok (.bipush (-2), 2) := by decide +kernel
theorem dX13_lineOf_38 : decode cX13_lineOf 38 = .ok (.ireturn, 1) := by decide +kernel
set_option maxRecDepth 20000 in
theorem ggX13_feuds_X13_allFeuds : GoodIn wsX13_feuds wsX13_allFeuds := goodIn_r _ [5, 6, 7, 8, 4, 9, 10, 11, 12, 13, 14, 15, 16, 17, 18, 19, 20, 21, 22, 23, 24, 25, 26, 27, 28, 29, 30, 31, 32, 33, 34, 35, 36, 37, 38, 39, 40, 41, 42, 43, 44, 45, 46, 47, 48, 49, 50, 51, 52, 53, 54, 55, 56, 57, 58, 59, 60] (by decide +kernel) (by decide +kernel)
set_option maxRecDepth 20000 in
theorem gX13_feuds_X13_allFeuds : GoodIn wsX13_feuds (wsV RX13 248 RX13 yX13_allFeuds wsX13_allFeuds) := goodIn_app (goodIn_of _ (by decide +kernel)) ggX13_feuds_X13_allFeuds
theorem dX13_feuds_0 : decode cX13_feuds 0 = .ok (.aload_n 0, 1) := by decide +kernel
theorem dX13_feuds_1 : decode cX13_feuds 1 = .ok (.invokevirtual 248, 3) := by decide +kernel
theorem dX13_feuds_4 : decode cX13_feuds 4 = .ok (.ireturn, 1) := by decide +kernel
set_option maxRecDepth 20000 in
theorem ggX13_feudsAgain_X13_allFeuds : GoodIn wsX13_feudsAgain wsX13_allFeuds := goodIn_r _ [5, 6, 7, 8, 4, 9, 10, 11, 12, 13, 14, 15, 16, 17, 18, 19, 20, 21, 22, 23, 24, 25, 26, 27, 28, 29, 30, 31, 32, 33, 34, 35, 36, 37, 38, 39, 40, 41, 42, 43, 44, 45, 46, 47, 48, 49, 50, 51, 52, 53, 54, 55, 56, 57, 58, 59, 60] (by decide +kernel) (by decide +kernel)
set_option maxRecDepth 20000 in
theorem gX13_feudsAgain_X13_allFeuds : GoodIn wsX13_feudsAgain (wsV RX13 248 RX13 yX13_allFeuds wsX13_allFeuds) := goodIn_app (goodIn_of _ (by decide +kernel)) ggX13_feudsAgain_X13_allFeuds
theorem dX13_feudsAgain_0 : decode cX13_feudsAgain 0 = .ok (.aload_n 0, 1) := by decide +kernel
theorem dX13_feudsAgain_1 : decode cX13_feudsAgain 1 = .ok (.invokevirtual 248, 3) := by decide +kernel
theorem dX13_feudsAgain_4 : decode cX13_feudsAgain 4 = .ok (.ireturn, 1) := by decide +kernel
set_option maxRecDepth 20000 in
theorem ggX13_excessOf_X13_isTooMany : GoodIn wsX13_excessOf wsX13_isTooMany := goodIn_r _ [6, 1, 7, 8, 5, 9, 10, 11, 12, 13, 14, 15, 16, 17, 18, 19, 20, 21, 22, 23, 24, 25, 26, 27, 28, 29, 30, 31, 32, 33, 34, 35, 36, 37, 38, 39, 40, 41, 42, 43, 44, 45, 46, 47, 48] (by decide +kernel) (by decide +kernel)
set_option maxRecDepth 20000 in
theorem gX13_excessOf_X13_isTooMany : GoodIn wsX13_excessOf (wsV RX13 119 RX13 yX13_isTooMany wsX13_isTooMany) := goodIn_app (goodIn_of _ (by decide +kernel)) ggX13_excessOf_X13_isTooMany
set_option maxRecDepth 20000 in
theorem ggX13_excessOf_X13_plants : GoodIn wsX13_excessOf wsX13_plants := goodIn_r _ [13, 1, 22, 23, 24, 25, 26, 27, 28, 29, 30, 31, 32, 33, 34, 35, 36, 37, 38, 39, 40, 41, 42, 43, 44, 45, 46, 47, 48] (by decide +kernel) (by decide +kernel)
set_option maxRecDepth 20000 in
theorem gX13_excessOf_X13_plants : GoodIn wsX13_excessOf (wsV RX13 104 RX13 yX13_plants wsX13_plants) := goodIn_app (goodIn_of _ (by decide +kernel)) ggX13_excessOf_X13_plants
theorem dX13_excessOf_0 : decode cX13_excessOf 0 = .ok (.iconst 0, 1) := by decide +kernel
theorem dX13_excessOf_1 : decode cX13_excessOf 1 = .ok (.istore_n 2, 1) := by decide +kernel
theorem dX13_excessOf_2 : decode cX13_excessOf 2 = .ok (.iconst 0, 1) := by decide +kernel
theorem dX13_excessOf_3 : decode cX13_excessOf 3 = .ok (.istore_n 3, 1) := by decide +kernel
theorem dX13_excessOf_4 : decode cX13_excessOf 4 = .ok (.iload_n 3, 1) := by decide +kernel
theorem dX13_excessOf_5 : decode cX13_excessOf 5 = .ok (.bipush 12, 2) := by decide +kernel
theorem dX13_excessOf_7 : decode cX13_excessOf 7 = .ok (.if_icmp .ge 53, 3) := by decide +kernel
theorem dX13_excessOf_10 : decode cX13_excessOf 10 = .ok (.aload_n 0, 1) := by decide +kernel
theorem dX13_excessOf_11 : decode cX13_excessOf 11 = .ok (.iload_n 1, 1) := by decide +kernel
theorem dX13_excessOf_12 : decode cX13_excessOf 12 = .ok (.iload_n 3, 1) := by decide +kernel
theorem dX13_excessOf_13 : decode cX13_excessOf 13 = .ok (.invokevirtual 119, 3) := by decide +kernel
theorem dX13_excessOf_16 : decode cX13_excessOf 16 = .ok (.ifCond .eq 38, 3) := by decide +kernel
theorem dX13_excessOf_19 : decode cX13_excessOf 19 = .ok (.aload_n 0, 1) := by decide +kernel
theorem dX13_excessOf_20 : decode cX13_excessOf 20 = .ok (.iload_n 1, 1) := by decide +kernel
theorem dX13_excessOf_21 : decode cX13_excessOf 21 = .ok (.invokevirtual 104, 3) := by decide +kernel
theorem dX13_excessOf_24 : decode cX13_excessOf 24 = .ok (.aload_n 0, 1) := by decide +kernel
theorem dX13_excessOf_25 : decode cX13_excessOf 25 = .ok (.getfield 7, 3) := by decide +kernel
theorem dX13_excessOf_28 : decode cX13_excessOf 28 = .ok (.bipush 22, 2) := by decide +kernel
theorem dX13_excessOf_30 : decode cX13_excessOf 30 = .ok (.iload_n 3, 1) := by decide +kernel
theorem dX13_excessOf_31 : decode cX13_excessOf 31 = .ok (.iadd, 1) := by decide +kernel
theorem dX13_excessOf_32 : decode cX13_excessOf 32 = .ok (.iaload, 1) := by decide +kernel
theorem dX13_excessOf_33 : decode cX13_excessOf 33 = .ok (.isub, 1) := by decide +kernel
theorem dX13_excessOf_34 : decode cX13_excessOf 34 = .ok (.iload_n 2, 1) := by decide +kernel
theorem dX13_excessOf_35 : decode cX13_excessOf 35 = .ok (.if_icmp .le 19, 3) := by decide +kernel
theorem dX13_excessOf_38 : decode cX13_excessOf 38 = .ok (.aload_n 0, 1) := by decide +kernel
theorem dX13_excessOf_39 : decode cX13_excessOf 39 = .ok (.iload_n 1, 1) := by decide +kernel
theorem dX13_excessOf_40 : decode cX13_excessOf 40 = .ok (.invokevirtual 104, 3) := by decide +kernel
theorem dX13_excessOf_43 : decode cX13_excessOf 43 = .ok (.aload_n 0, 1) := by decide +kernel
theorem dX13_excessOf_44 : decode cX13_excessOf 44 = .ok (.getfield 7, 3) := by decide +kernel
theorem dX13_excessOf_47 : decode cX13_excessOf 47 = .ok (.bipush 22, 2) := by decide +kernel
theorem dX13_excessOf_49 : decode cX13_excessOf 49 = .ok (.iload_n 3, 1) := by decide +kernel
theorem dX13_excessOf_50 : decode cX13_excessOf 50 = .ok (.iadd, 1) := by decide +kernel
theorem dX13_excessOf_51 : decode cX13_excessOf 51 = .ok (.iaload, 1) := by decide +kernel
theorem dX13_excessOf_52 : decode cX13_excessOf 52 = .ok (.isub, 1) := by decide +kernel
theorem dX13_excessOf_53 : decode cX13_excessOf 53 = .ok (.istore_n 2, 1) := by decide +kernel
theorem dX13_excessOf_54 : decode cX13_excessOf 54 = .ok (.iinc 3 1, 3) := by decide +kernel
theorem dX13_excessOf_57 : decode cX13_excessOf 57 = .ok (.goto (-53), 3) := by decide +kernel
theorem dX13_excessOf_60 : decode cX13_excessOf 60 = .ok (.iload_n 2, 1) := by decide +kernel
theorem dX13_excessOf_61 : decode cX13_excessOf 61 = .ok (.ireturn, 1) := by decide +kernel
set_option maxRecDepth 20000 in
theorem ggX13_allExcess_X13_excessOf : GoodIn wsX13_allExcess wsX13_excessOf := goodIn_r _ [5, 6, 7, 8, 9, 4, 10, 11, 12, 13, 14, 15, 16, 17, 18, 19, 20, 21, 22, 23, 24, 25, 26, 27, 28, 29, 30, 31, 32, 33, 34, 35, 36, 37, 38, 39, 40, 41, 42, 43, 44, 45, 46, 47, 48, 49, 50, 51, 52] (by decide +kernel) (by decide +kernel)
set_option maxRecDepth 20000 in
theorem gX13_allExcess_X13_excessOf : GoodIn wsX13_allExcess (wsV RX13 251 RX13 yX13_excessOf wsX13_excessOf) := goodIn_app (goodIn_of _ (by decide +kernel)) ggX13_allExcess_X13_excessOf
theorem dX13_allExcess_0 : decode cX13_allExcess 0 = .ok (.iconst 0, 1) := by decide +kernel
theorem dX13_allExcess_1 : decode cX13_allExcess 1 = .ok (.istore_n 1, 1) := by decide +kernel
theorem dX13_allExcess_2 : decode cX13_allExcess 2 = .ok (.iconst 0, 1) := by decide +kernel
theorem dX13_allExcess_3 : decode cX13_allExcess 3 = .ok (.istore_n 2, 1) := by decide +kernel
theorem dX13_allExcess_4 : decode cX13_allExcess 4 = .ok (.iload_n 2, 1) := by decide +kernel
theorem dX13_allExcess_5 : decode cX13_allExcess 5 = .ok (.bipush 12, 2) := by decide +kernel
theorem dX13_allExcess_7 : decode cX13_allExcess 7 = .ok (.if_icmp .ge 17, 3) := by decide +kernel
theorem dX13_allExcess_10 : decode cX13_allExcess 10 = .ok (.iload_n 1, 1) := by decide +kernel
theorem dX13_allExcess_11 : decode cX13_allExcess 11 = .ok (.aload_n 0, 1) := by decide +kernel
theorem dX13_allExcess_12 : decode cX13_allExcess 12 = .ok (.iload_n 2, 1) := by decide +kernel
theorem dX13_allExcess_13 : decode cX13_allExcess 13 = .ok (.invokevirtual 251, 3) := by decide +kernel
theorem dX13_allExcess_16 : decode cX13_allExcess 16 = .ok (.iadd, 1) := by decide +kernel
theorem dX13_allExcess_17 : decode cX13_allExcess 17 = .ok (.istore_n 1, 1) := by decide +kernel
theorem dX13_allExcess_18 : decode cX13_allExcess 18 = .ok (.iinc 2 1, 3) := by decide +kernel
theorem dX13_allExcess_21 : decode cX13_allExcess 21 = .ok (.goto (-17), 3) := by decide +kernel
theorem dX13_allExcess_24 : decode cX13_allExcess 24 = .ok (.iload_n 1, 1) := by decide +kernel
theorem dX13_allExcess_25 : decode cX13_allExcess 25 = .ok (.ireturn, 1) := by decide +kernel
set_option maxRecDepth 20000 in
theorem ggX13_excess_X13_allExcess : GoodIn wsX13_excess wsX13_allExcess := goodIn_r _ [5, 6, 7, 8, 4, 9, 10, 11, 12, 13, 14, 15, 16, 17, 18, 19, 20, 21, 22, 23, 24, 25, 26, 27, 28, 29, 30, 31, 32, 33, 34, 35, 36, 37, 38, 39, 40, 41, 42, 43, 44, 45, 46, 47, 48, 49, 50, 51, 52, 53, 54, 55, 56] (by decide +kernel) (by decide +kernel)
set_option maxRecDepth 20000 in
theorem gX13_excess_X13_allExcess : GoodIn wsX13_excess (wsV RX13 254 RX13 yX13_allExcess wsX13_allExcess) := goodIn_app (goodIn_of _ (by decide +kernel)) ggX13_excess_X13_allExcess
theorem dX13_excess_0 : decode cX13_excess 0 = .ok (.aload_n 0, 1) := by decide +kernel
theorem dX13_excess_1 : decode cX13_excess 1 = .ok (.invokevirtual 254, 3) := by decide +kernel
theorem dX13_excess_4 : decode cX13_excess 4 = .ok (.ireturn, 1) := by decide +kernel
set_option maxRecDepth 20000 in
theorem ggX13_excessAgain_X13_allExcess : GoodIn wsX13_excessAgain wsX13_allExcess := goodIn_r _ [5, 6, 7, 8, 4, 9, 10, 11, 12, 13, 14, 15, 16, 17, 18, 19, 20, 21, 22, 23, 24, 25, 26, 27, 28, 29, 30, 31, 32, 33, 34, 35, 36, 37, 38, 39, 40, 41, 42, 43, 44, 45, 46, 47, 48, 49, 50, 51, 52, 53, 54, 55, 56] (by decide +kernel) (by decide +kernel)
set_option maxRecDepth 20000 in
theorem gX13_excessAgain_X13_allExcess : GoodIn wsX13_excessAgain (wsV RX13 254 RX13 yX13_allExcess wsX13_allExcess) := goodIn_app (goodIn_of _ (by decide +kernel)) ggX13_excessAgain_X13_allExcess
theorem dX13_excessAgain_0 : decode cX13_excessAgain 0 = .ok (.aload_n 0, 1) := by decide +kernel
theorem dX13_excessAgain_1 : decode cX13_excessAgain 1 = .ok (.invokevirtual 254, 3) := by decide +kernel
theorem dX13_excessAgain_4 : decode cX13_excessAgain 4 = .ok (.ireturn, 1) := by decide +kernel
set_option maxRecDepth 20000 in
theorem ggX13_census_X13_allGreetings : GoodIn wsX13_census wsX13_allGreetings := goodIn_r _ [5, 6, 7, 8, 4, 9, 10, 11, 12, 13, 14, 15, 16, 17, 18, 19, 20, 21, 22, 23, 24, 25, 26, 27, 28, 29, 30, 31, 32, 33, 34, 35, 36, 37, 38, 39, 40, 41] (by decide +kernel) (by decide +kernel)
set_option maxRecDepth 20000 in
theorem gX13_census_X13_allGreetings : GoodIn wsX13_census (wsV RX13 257 RX13 yX13_allGreetings wsX13_allGreetings) := goodIn_app (goodIn_of _ (by decide +kernel)) ggX13_census_X13_allGreetings
theorem dX13_census_0 : decode cX13_census 0 = .ok (.aload_n 0, 1) := by decide +kernel
theorem dX13_census_1 : decode cX13_census 1 = .ok (.invokevirtual 257, 3) := by decide +kernel
theorem dX13_census_4 : decode cX13_census 4 = .ok (.ireturn, 1) := by decide +kernel
set_option maxRecDepth 20000 in
theorem ggX13_censusAgain_X13_allGreetings : GoodIn wsX13_censusAgain wsX13_allGreetings := goodIn_r _ [5, 6, 7, 8, 4, 9, 10, 11, 12, 13, 14, 15, 16, 17, 18, 19, 20, 21, 22, 23, 24, 25, 26, 27, 28, 29, 30, 31, 32, 33, 34, 35, 36, 37, 38, 39, 40, 41] (by decide +kernel) (by decide +kernel)
set_option maxRecDepth 20000 in
theorem gX13_censusAgain_X13_allGreetings : GoodIn wsX13_censusAgain (wsV RX13 257 RX13 yX13_allGreetings wsX13_allGreetings) := goodIn_app (goodIn_of _ (by decide +kernel)) ggX13_censusAgain_X13_allGreetings
theorem dX13_censusAgain_0 : decode cX13_censusAgain 0 = .ok (.aload_n 0, 1) := by decide +kernel
theorem dX13_censusAgain_1 : decode cX13_censusAgain 1 = .ok (.invokevirtual 257, 3) := by decide +kernel
theorem dX13_censusAgain_4 : decode cX13_censusAgain 4 = .ok (.ireturn, 1) := by decide +kernel
set_option maxRecDepth 20000 in
theorem ggX13_isStep_X13_isBeside : GoodIn wsX13_isStep wsX13_isBeside := goodIn_r _ [4] (by decide +kernel) (by decide +kernel)
set_option maxRecDepth 20000 in
theorem gX13_isStep_X13_isBeside : GoodIn wsX13_isStep (va_wsS RX13 260 yX13_isBeside wsX13_isBeside) := goodIn_app (goodIn_of _ (by decide +kernel)) ggX13_isStep_X13_isBeside
set_option maxRecDepth 20000 in
theorem ggX13_isStep_X13_areFeuding : GoodIn wsX13_isStep wsX13_areFeuding := goodIn_r _ [8, 9, 10, 11, 3, 12, 13, 14, 15, 16, 17, 18, 19, 20, 21, 22, 23, 24, 25, 26, 27, 28, 29, 30, 31, 32, 33, 34, 35, 36, 37, 38, 39, 40, 41, 42, 43, 44, 45, 46, 47, 48, 49, 50, 51, 52, 53, 54, 55] (by decide +kernel) (by decide +kernel)
set_option maxRecDepth 20000 in
theorem gX13_isStep_X13_areFeuding : GoodIn wsX13_isStep (wsV RX13 122 RX13 yX13_areFeuding wsX13_areFeuding) := goodIn_app (goodIn_of _ (by decide +kernel)) ggX13_isStep_X13_areFeuding
theorem dX13_isStep_0 : decode cX13_isStep 0 = .ok (.iload_n 1, 1) := by decide +kernel
theorem dX13_isStep_1 : decode cX13_isStep 1 = .ok (.iload_n 2, 1) := by decide +kernel
theorem dX13_isStep_2 : decode cX13_isStep 2 = .ok (.invokestatic 260, 3) := by decide +kernel
theorem dX13_isStep_5 : decode cX13_isStep 5 = .ok (.ifCond .eq 16, 3) := by decide +kernel
theorem dX13_isStep_8 : decode cX13_isStep 8 = .ok (.aload_n 0, 1) := by decide +kernel
theorem dX13_isStep_9 : decode cX13_isStep 9 = .ok (.iload_n 1, 1) := by decide +kernel
theorem dX13_isStep_10 : decode cX13_isStep 10 = .ok (.iload_n 2, 1) := by decide +kernel
theorem dX13_isStep_11 : decode cX13_isStep 11 = .ok (.invokevirtual 122, 3) := by decide +kernel
theorem dX13_isStep_14 : decode cX13_isStep 14 = .ok (.ifCond .ne 7, 3) := by decide +kernel
theorem dX13_isStep_17 : decode cX13_isStep 17 = .ok (.iconst 1, 1) := by decide +kernel
theorem dX13_isStep_18 : decode cX13_isStep 18 = .ok (.goto 4, 3) := by decide +kernel
theorem dX13_isStep_21 : decode cX13_isStep 21 = .ok (.iconst 0, 1) := by decide +kernel
theorem dX13_isStep_22 : decode cX13_isStep 22 = .ok (.ireturn, 1) := by decide +kernel
set_option maxRecDepth 20000 in
theorem ggX13_lays_X13_isStep : GoodIn wsX13_lays wsX13_isStep := goodIn_r _ [7, 8, 9, 6, 10, 11, 12, 13, 14, 15, 16, 17, 18, 19, 20, 21, 22, 23, 24, 25, 26, 27, 28, 29, 30, 31, 32, 33, 34, 35, 36, 37, 38, 39, 40, 41, 42, 43, 44, 45, 46, 47, 48, 49, 50, 51, 52, 53, 54, 55, 56, 57, 58, 59, 60, 61] (by decide +kernel) (by decide +kernel)
set_option maxRecDepth 20000 in
theorem gX13_lays_X13_isStep : GoodIn wsX13_lays (wsV RX13 263 RX13 yX13_isStep wsX13_isStep) := goodIn_app (goodIn_of _ (by decide +kernel)) ggX13_lays_X13_isStep
theorem dX13_lays_0 : decode cX13_lays 0 = .ok (.iconst 0, 1) := by decide +kernel
theorem dX13_lays_1 : decode cX13_lays 1 = .ok (.istore_n 2, 1) := by decide +kernel
theorem dX13_lays_2 : decode cX13_lays 2 = .ok (.iload_n 2, 1) := by decide +kernel
theorem dX13_lays_3 : decode cX13_lays 3 = .ok (.bipush 12, 2) := by decide +kernel
theorem dX13_lays_5 : decode cX13_lays 5 = .ok (.if_icmp .ge 17, 3) := by decide +kernel
theorem dX13_lays_8 : decode cX13_lays 8 = .ok (.aload_n 0, 1) := by decide +kernel
theorem dX13_lays_9 : decode cX13_lays 9 = .ok (.getfield 54, 3) := by decide +kernel
theorem dX13_lays_12 : decode cX13_lays 12 = .ok (.iload_n 2, 1) := by decide +kernel
theorem dX13_lays_13 : decode cX13_lays 13 = .ok (.bipush (-4), 2) := by decide +kernel
theorem dX13_lays_15 : decode cX13_lays 15 = .ok (.iastore, 1) := by decide +kernel
theorem dX13_lays_16 : decode cX13_lays 16 = .ok (.iinc 2 1, 3) := by decide +kernel
theorem dX13_lays_19 : decode cX13_lays 19 = .ok (.goto (-17), 3) := by decide +kernel
theorem dX13_lays_22 : decode cX13_lays 22 = .ok (.aload_n 0, 1) := by decide +kernel
theorem dX13_lays_23 : decode cX13_lays 23 = .ok (.getfield 54, 3) := by decide +kernel
theorem dX13_lays_26 : decode cX13_lays 26 = .ok (.iload_n 1, 1) := by decide +kernel
theorem dX13_lays_27 : decode cX13_lays 27 = .ok (.iconst 0, 1) := by decide +kernel
theorem dX13_lays_28 : decode cX13_lays 28 = .ok (.iastore, 1) := by decide +kernel
theorem dX13_lays_29 : decode cX13_lays 29 = .ok (.aload_n 0, 1) := by decide +kernel
theorem dX13_lays_30 : decode cX13_lays 30 = .ok (.getfield 57, 3) := by decide +kernel
theorem dX13_lays_33 : decode cX13_lays 33 = .ok (.iconst 0, 1) := by decide +kernel
theorem dX13_lays_34 : decode cX13_lays 34 = .ok (.iload_n 1, 1) := by decide +kernel
theorem dX13_lays_35 : decode cX13_lays 35 = .ok (.iastore, 1) := by decide +kernel
theorem dX13_lays_36 : decode cX13_lays 36 = .ok (.iconst 1, 1) := by decide +kernel
theorem dX13_lays_37 : decode cX13_lays 37 = .ok (.istore_n 2, 1) := by decide +kernel
theorem dX13_lays_38 : decode cX13_lays 38 = .ok (.iconst 0, 1) := by decide +kernel
theorem dX13_lays_39 : decode cX13_lays 39 = .ok (.istore_n 3, 1) := by decide +kernel
theorem dX13_lays_40 : decode cX13_lays 40 = .ok (.iload_n 3, 1) := by decide +kernel
theorem dX13_lays_41 : decode cX13_lays 41 = .ok (.iload_n 2, 1) := by decide +kernel
theorem dX13_lays_42 : decode cX13_lays 42 = .ok (.if_icmp .ge 84, 3) := by decide +kernel
theorem dX13_lays_45 : decode cX13_lays 45 = .ok (.iconst 0, 1) := by decide +kernel
theorem dX13_lays_46 : decode cX13_lays 46 = .ok (.istore 4, 2) := by decide +kernel
theorem dX13_lays_48 : decode cX13_lays 48 = .ok (.iload 4, 2) := by decide +kernel
theorem dX13_lays_50 : decode cX13_lays 50 = .ok (.bipush 12, 2) := by decide +kernel
theorem dX13_lays_52 : decode cX13_lays 52 = .ok (.if_icmp .ge 68, 3) := by decide +kernel
theorem dX13_lays_55 : decode cX13_lays 55 = .ok (.aload_n 0, 1) := by decide +kernel
theorem dX13_lays_56 : decode cX13_lays 56 = .ok (.getfield 54, 3) := by decide +kernel
theorem dX13_lays_59 : decode cX13_lays 59 = .ok (.iload 4, 2) := by decide +kernel
theorem dX13_lays_61 : decode cX13_lays 61 = .ok (.iaload, 1) := by decide +kernel
theorem dX13_lays_62 : decode cX13_lays 62 = .ok (.ifCond .ge 52, 3) := by decide +kernel
theorem dX13_lays_65 : decode cX13_lays 65 = .ok (.aload_n 0, 1) := by decide +kernel
theorem dX13_lays_66 : decode cX13_lays 66 = .ok (.aload_n 0, 1) := by decide +kernel
theorem dX13_lays_67 : decode cX13_lays 67 = .ok (.getfield 57, 3) := by decide +kernel
theorem dX13_lays_70 : decode cX13_lays 70 = .ok (.iload_n 3, 1) := by decide +kernel
theorem dX13_lays_71 : decode cX13_lays 71 = .ok (.iaload, 1) := by decide +kernel
theorem dX13_lays_72 : decode cX13_lays 72 = .ok (.iload 4, 2) := by decide +kernel
theorem dX13_lays_74 : decode cX13_lays 74 = .ok (.invokevirtual 263, 3) := by decide +kernel
theorem dX13_lays_77 : decode cX13_lays 77 = .ok (.ifCond .ne 6, 3) := by decide +kernel
theorem dX13_lays_80 : decode cX13_lays 80 = .ok (.goto 34, 3) := by decide +kernel
theorem dX13_lays_83 : decode cX13_lays 83 = .ok (.aload_n 0, 1) := by decide +kernel
theorem dX13_lays_84 : decode cX13_lays 84 = .ok (.getfield 54, 3) := by decide +kernel
theorem dX13_lays_87 : decode cX13_lays 87 = .ok (.iload 4, 2) := by decide +kernel
theorem dX13_lays_89 : decode cX13_lays 89 = .ok (.aload_n 0, 1) := by decide +kernel
theorem dX13_lays_90 : decode cX13_lays 90 = .ok (.getfield 54, 3) := by decide +kernel
theorem dX13_lays_93 : decode cX13_lays 93 = .ok (.aload_n 0, 1) := by decide +kernel
theorem dX13_lays_94 : decode cX13_lays 94 = .ok (.getfield 57, 3) := by decide +kernel
theorem dX13_lays_97 : decode cX13_lays 97 = .ok (.iload_n 3, 1) := by decide +kernel
theorem dX13_lays_98 : decode cX13_lays 98 = .ok (.iaload, 1) := by decide +kernel
theorem dX13_lays_99 : decode cX13_lays 99 = .ok (.iaload, 1) := by decide +kernel
theorem dX13_lays_100 : decode cX13_lays 100 = .ok (.iconst 1, 1) := by decide +kernel
theorem dX13_lays_101 : decode cX13_lays 101 = .ok (.iadd, 1) := by decide +kernel
theorem dX13_lays_102 : decode cX13_lays 102 = .ok (.iastore, 1) := by decide +kernel
theorem dX13_lays_103 : decode cX13_lays 103 = .ok (.aload_n 0, 1) := by decide +kernel
theorem dX13_lays_104 : decode cX13_lays 104 = .ok (.getfield 57, 3) := by decide +kernel
theorem dX13_lays_107 : decode cX13_lays 107 = .ok (.iload_n 2, 1) := by decide +kernel
theorem dX13_lays_108 : decode cX13_lays 108 = .ok (.iload 4, 2) := by decide +kernel
theorem dX13_lays_110 : decode cX13_lays 110 = .ok (.iastore, 1) := by decide +kernel
theorem dX13_lays_111 : decode cX13_lays 111 = .ok (.iinc 2 1, 3) := by decide +kernel
theorem dX13_lays_114 : decode cX13_lays 114 = .ok (.iinc 4 1, 3) := by decide +kernel
theorem dX13_lays_117 : decode cX13_lays 117 = .ok (.goto (-69), 3) := by decide +kernel
theorem dX13_lays_120 : decode cX13_lays 120 = .ok (.iinc 3 1, 3) := by decide +kernel
theorem dX13_lays_123 : decode cX13_lays 123 = .ok (.goto (-83), 3) := by decide +kernel
theorem dX13_lays_126 : decode cX13_lays 126 = .ok (.return_, 1) := by decide +kernel
set_option maxRecDepth 20000 in
theorem ggX13_fewest_X13_lays : GoodIn wsX13_fewest wsX13_lays := goodIn_r _ [6, 1, 7, 8, 9, 10, 5, 11, 12, 13, 14, 15, 16, 17, 18, 19, 20, 21, 22, 23, 24, 25, 26, 27, 28, 29, 30, 31, 32, 33, 34, 35, 36, 37, 38, 39, 40, 41, 42, 43, 44, 45, 46, 47, 48, 49, 50, 51, 52, 53, 54, 55, 56, 57, 58, 59, 60, 61, 62, 63, 64, 65] (by decide +kernel) (by decide +kernel)
set_option maxRecDepth 20000 in
theorem gX13_fewest_X13_lays : GoodIn wsX13_fewest (wsV RX13 266 RX13 yX13_lays wsX13_lays) := goodIn_app (goodIn_of _ (by decide +kernel)) ggX13_fewest_X13_lays
theorem dX13_fewest_0 : decode cX13_fewest 0 = .ok (.aload_n 0, 1) := by decide +kernel
theorem dX13_fewest_1 : decode cX13_fewest 1 = .ok (.iload_n 2, 1) := by decide +kernel
theorem dX13_fewest_2 : decode cX13_fewest 2 = .ok (.invokevirtual 266, 3) := by decide +kernel
theorem dX13_fewest_5 : decode cX13_fewest 5 = .ok (.aload_n 0, 1) := by decide +kernel
theorem dX13_fewest_6 : decode cX13_fewest 6 = .ok (.getfield 54, 3) := by decide +kernel
theorem dX13_fewest_9 : decode cX13_fewest 9 = .ok (.iload_n 1, 1) := by decide +kernel
theorem dX13_fewest_10 : decode cX13_fewest 10 = .ok (.iaload, 1) := by decide +kernel
theorem dX13_fewest_11 : decode cX13_fewest 11 = .ok (.ireturn, 1) := by decide +kernel
set_option maxRecDepth 20000 in
theorem ggX13_steps_X13_areTwo : GoodIn wsX13_steps wsX13_areTwo := goodIn_r _ [4, 5, 6, 3, 7, 8, 9, 10] (by decide +kernel) (by decide +kernel)
set_option maxRecDepth 20000 in
theorem gX13_steps_X13_areTwo : GoodIn wsX13_steps (va_wsS RX13 169 yX13_areTwo wsX13_areTwo) := goodIn_app (goodIn_of _ (by decide +kernel)) ggX13_steps_X13_areTwo
set_option maxRecDepth 20000 in
theorem ggX13_steps_X13_fewest : GoodIn wsX13_steps wsX13_fewest := goodIn_r _ [14, 15, 16, 17, 18, 3, 19, 20, 21, 22, 23, 24, 25, 26, 27, 28, 29, 30, 31, 32, 33, 34, 35, 36, 37, 38, 39, 40, 41, 42, 43, 44, 45, 46, 47, 48, 49, 50, 51, 52, 53, 54, 55, 56, 57, 58, 59, 60, 61, 62, 63, 64, 65, 66, 67, 68, 69, 70, 71, 72, 73, 74, 75, 76, 77, 78] (by decide +kernel) (by decide +kernel)
set_option maxRecDepth 20000 in
theorem gX13_steps_X13_fewest : GoodIn wsX13_steps (wsV RX13 245 RX13 yX13_fewest wsX13_fewest) := goodIn_app (goodIn_of _ (by decide +kernel)) ggX13_steps_X13_fewest
theorem dX13_steps_0 : decode cX13_steps 0 = .ok (.iload_n 1, 1) := by decide +kernel
theorem dX13_steps_1 : decode cX13_steps 1 = .ok (.iload_n 2, 1) := by decide +kernel
theorem dX13_steps_2 : decode cX13_steps 2 = .ok (.invokestatic 169, 3) := by decide +kernel
theorem dX13_steps_5 : decode cX13_steps 5 = .ok (.ifCond .eq 12, 3) := by decide +kernel
theorem dX13_steps_8 : decode cX13_steps 8 = .ok (.aload_n 0, 1) := by decide +kernel
theorem dX13_steps_9 : decode cX13_steps 9 = .ok (.iload_n 1, 1) := by decide +kernel
theorem dX13_steps_10 : decode cX13_steps 10 = .ok (.iload_n 2, 1) := by decide +kernel
theorem dX13_steps_11 : decode cX13_steps 11 = .ok (.invokevirtual 245, 3) := by decide +kernel
theorem dX13_steps_14 : decode cX13_steps 14 = .ok (.goto 4, 3) := by decide +kernel
theorem dX13_steps_17 : decode cX13_steps 17 = .ok (.iconst (-1), 1) := by decide +kernel
theorem dX13_steps_18 : decode cX13_steps 18 = .ok (.ireturn, 1) := by decide +kernel
set_option maxRecDepth 20000 in
theorem ggX13_stepsAgain_X13_areTwo : GoodIn wsX13_stepsAgain wsX13_areTwo := goodIn_r _ [4, 5, 6, 3, 7, 8, 9, 10] (by decide +kernel) (by decide +kernel)
set_option maxRecDepth 20000 in
theorem gX13_stepsAgain_X13_areTwo : GoodIn wsX13_stepsAgain (va_wsS RX13 169 yX13_areTwo wsX13_areTwo) := goodIn_app (goodIn_of _ (by decide +kernel)) ggX13_stepsAgain_X13_areTwo
set_option maxRecDepth 20000 in
theorem ggX13_stepsAgain_X13_fewest : GoodIn wsX13_stepsAgain wsX13_fewest := goodIn_r _ [14, 15, 16, 17, 18, 3, 19, 20, 21, 22, 23, 24, 25, 26, 27, 28, 29, 30, 31, 32, 33, 34, 35, 36, 37, 38, 39, 40, 41, 42, 43, 44, 45, 46, 47, 48, 49, 50, 51, 52, 53, 54, 55, 56, 57, 58, 59, 60, 61, 62, 63, 64, 65, 66, 67, 68, 69, 70, 71, 72, 73, 74, 75, 76, 77, 78] (by decide +kernel) (by decide +kernel)
set_option maxRecDepth 20000 in
theorem gX13_stepsAgain_X13_fewest : GoodIn wsX13_stepsAgain (wsV RX13 245 RX13 yX13_fewest wsX13_fewest) := goodIn_app (goodIn_of _ (by decide +kernel)) ggX13_stepsAgain_X13_fewest
theorem dX13_stepsAgain_0 : decode cX13_stepsAgain 0 = .ok (.iload_n 1, 1) := by decide +kernel
theorem dX13_stepsAgain_1 : decode cX13_stepsAgain 1 = .ok (.iload_n 2, 1) := by decide +kernel
theorem dX13_stepsAgain_2 : decode cX13_stepsAgain 2 = .ok (.invokestatic 169, 3) := by decide +kernel
theorem dX13_stepsAgain_5 : decode cX13_stepsAgain 5 = .ok (.ifCond .eq 12, 3) := by decide +kernel
theorem dX13_stepsAgain_8 : decode cX13_stepsAgain 8 = .ok (.aload_n 0, 1) := by decide +kernel
theorem dX13_stepsAgain_9 : decode cX13_stepsAgain 9 = .ok (.iload_n 1, 1) := by decide +kernel
theorem dX13_stepsAgain_10 : decode cX13_stepsAgain 10 = .ok (.iload_n 2, 1) := by decide +kernel
theorem dX13_stepsAgain_11 : decode cX13_stepsAgain 11 = .ok (.invokevirtual 245, 3) := by decide +kernel
theorem dX13_stepsAgain_14 : decode cX13_stepsAgain 14 = .ok (.goto 4, 3) := by decide +kernel
theorem dX13_stepsAgain_17 : decode cX13_stepsAgain 17 = .ok (.iconst (-1), 1) := by decide +kernel
theorem dX13_stepsAgain_18 : decode cX13_stepsAgain 18 = .ok (.ireturn, 1) := by decide +kernel
set_option maxRecDepth 20000 in
theorem ggX13_nextOf_X13_isStep : GoodIn wsX13_nextOf wsX13_isStep := goodIn_r _ [6, 7, 8, 5, 9, 10, 11, 12, 13, 14, 15, 16, 17, 18, 19, 20, 21, 22, 23, 24, 25, 26, 27, 28, 29, 30, 31, 32, 33, 34, 35, 36, 37, 38, 39, 40, 41, 42, 43, 44, 45, 46, 47, 48, 49, 50, 51, 52, 53, 54, 55, 56, 57, 58, 59, 60] (by decide +kernel) (by decide +kernel)
set_option maxRecDepth 20000 in
theorem gX13_nextOf_X13_isStep : GoodIn wsX13_nextOf (wsV RX13 263 RX13 yX13_isStep wsX13_isStep) := goodIn_app (goodIn_of _ (by decide +kernel)) ggX13_nextOf_X13_isStep
theorem dX13_nextOf_0 : decode cX13_nextOf 0 = .ok (.iconst 0, 1) := by decide +kernel
theorem dX13_nextOf_1 : decode cX13_nextOf 1 = .ok (.istore_n 2, 1) := by decide +kernel
theorem dX13_nextOf_2 : decode cX13_nextOf 2 = .ok (.iload_n 2, 1) := by decide +kernel
theorem dX13_nextOf_3 : decode cX13_nextOf 3 = .ok (.bipush 12, 2) := by decide +kernel
theorem dX13_nextOf_5 : decode cX13_nextOf 5 = .ok (.if_icmp .ge 37, 3) := by decide +kernel
theorem dX13_nextOf_8 : decode cX13_nextOf 8 = .ok (.aload_n 0, 1) := by decide +kernel
theorem dX13_nextOf_9 : decode cX13_nextOf 9 = .ok (.iload_n 1, 1) := by decide +kernel
theorem dX13_nextOf_10 : decode cX13_nextOf 10 = .ok (.iload_n 2, 1) := by decide +kernel
theorem dX13_nextOf_11 : decode cX13_nextOf 11 = .ok (.invokevirtual 263, 3) := by decide +kernel
theorem dX13_nextOf_14 : decode cX13_nextOf 14 = .ok (.ifCond .eq 22, 3) := by decide +kernel
theorem dX13_nextOf_17 : decode cX13_nextOf 17 = .ok (.aload_n 0, 1) := by decide +kernel
theorem dX13_nextOf_18 : decode cX13_nextOf 18 = .ok (.getfield 54, 3) := by decide +kernel
theorem dX13_nextOf_21 : decode cX13_nextOf 21 = .ok (.iload_n 2, 1) := by decide +kernel
theorem dX13_nextOf_22 : decode cX13_nextOf 22 = .ok (.iaload, 1) := by decide +kernel
theorem dX13_nextOf_23 : decode cX13_nextOf 23 = .ok (.aload_n 0, 1) := by decide +kernel
theorem dX13_nextOf_24 : decode cX13_nextOf 24 = .ok (.getfield 54, 3) := by decide +kernel
theorem dX13_nextOf_27 : decode cX13_nextOf 27 = .ok (.iload_n 1, 1) := by decide +kernel
theorem dX13_nextOf_28 : decode cX13_nextOf 28 = .ok (.iaload, 1) := by decide +kernel
theorem dX13_nextOf_29 : decode cX13_nextOf 29 = .ok (.iconst 1, 1) := by decide +kernel
theorem dX13_nextOf_30 : decode cX13_nextOf 30 = .ok (.isub, 1) := by decide +kernel
theorem dX13_nextOf_31 : decode cX13_nextOf 31 = .ok (.if_icmp .ne 5, 3) := by decide +kernel
theorem dX13_nextOf_34 : decode cX13_nextOf 34 = .ok (.iload_n 2, 1) := by decide +kernel
theorem dX13_nextOf_35 : decode cX13_nextOf 35 = .ok (.ireturn, 1) := by decide +kernel
theorem dX13_nextOf_36 : decode cX13_nextOf 36 = .ok (.iinc 2 1, 3) := by decide +kernel
theorem dX13_nextOf_39 : decode cX13_nextOf 39 = .ok (.goto (-37), 3) := by decide +kernel
theorem dX13_nextOf_42 : decode cX13_nextOf 42 = .ok (.iconst (-1), 1) := by decide +kernel
theorem dX13_nextOf_43 : decode cX13_nextOf 43 = .ok (.ireturn, 1) := by decide +kernel
set_option maxRecDepth 20000 in
theorem ggX13_way_X13_areTwo : GoodIn wsX13_way wsX13_areTwo := goodIn_r _ [4, 5, 6, 3, 7, 8, 9, 10] (by decide +kernel) (by decide +kernel)
set_option maxRecDepth 20000 in
theorem gX13_way_X13_areTwo : GoodIn wsX13_way (va_wsS RX13 169 yX13_areTwo wsX13_areTwo) := goodIn_app (goodIn_of _ (by decide +kernel)) ggX13_way_X13_areTwo
set_option maxRecDepth 20000 in
theorem ggX13_way_X13_fewest : GoodIn wsX13_way wsX13_fewest := goodIn_r _ [14, 15, 16, 17, 18, 3, 19, 20, 21, 22, 23, 24, 25, 26, 27, 28, 29, 30, 31, 32, 33, 34, 35, 36, 37, 38, 39, 40, 41, 42, 43, 44, 45, 46, 47, 48, 49, 50, 51, 56, 57, 58, 59, 60, 61, 62, 63, 64, 65, 66, 67, 68, 69, 70, 71, 72, 73, 74, 75, 76, 77, 78, 79, 80, 81, 82] (by decide +kernel) (by decide +kernel)
set_option maxRecDepth 20000 in
theorem gX13_way_X13_fewest : GoodIn wsX13_way (wsV RX13 245 RX13 yX13_fewest wsX13_fewest) := goodIn_app (goodIn_of _ (by decide +kernel)) ggX13_way_X13_fewest
set_option maxRecDepth 20000 in
theorem ggX13_way_X13_in : GoodIn wsX13_way wsX13_in := goodIn_r _ [10] (by decide +kernel) (by decide +kernel)
set_option maxRecDepth 20000 in
theorem gX13_way_X13_in : GoodIn wsX13_way (va_wsS RX13 100 yX13_in wsX13_in) := goodIn_app (goodIn_of _ (by decide +kernel)) ggX13_way_X13_in
set_option maxRecDepth 20000 in
theorem ggX13_way_X13_nextOf : GoodIn wsX13_way wsX13_nextOf := goodIn_r _ [55, 15, 21, 22, 23, 3, 24, 25, 26, 27, 28, 29, 30, 31, 32, 33, 34, 35, 36, 37, 38, 39, 40, 41, 42, 43, 44, 45, 46, 47, 48, 49, 50, 51, 56, 57, 58, 59, 60, 61, 62, 63, 64, 65, 66, 67, 68, 69, 70, 71, 72, 73, 74, 75, 76, 77, 78, 79, 80, 81, 82] (by decide +kernel) (by decide +kernel)
set_option maxRecDepth 20000 in
theorem gX13_way_X13_nextOf : GoodIn wsX13_way (wsV RX13 270 RX13 yX13_nextOf wsX13_nextOf) := goodIn_app (goodIn_of _ (by decide +kernel)) ggX13_way_X13_nextOf
theorem dX13_way_0 : decode cX13_way 0 = .ok (.iload_n 1, 1) := by decide +kernel
theorem dX13_way_1 : decode cX13_way 1 = .ok (.iload_n 2, 1) := by decide +kernel
theorem dX13_way_2 : decode cX13_way 2 = .ok (.invokestatic 169, 3) := by decide +kernel
theorem dX13_way_5 : decode cX13_way 5 = .ok (.ifCond .ne 5, 3) := by decide +kernel
theorem dX13_way_8 : decode cX13_way 8 = .ok (.iconst (-1), 1) := by decide +kernel
theorem dX13_way_9 : decode cX13_way 9 = .ok (.ireturn, 1) := by decide +kernel
theorem dX13_way_10 : decode cX13_way 10 = .ok (.aload_n 0, 1) := by decide +kernel
theorem dX13_way_11 : decode cX13_way 11 = .ok (.iload_n 1, 1) := by decide +kernel
theorem dX13_way_12 : decode cX13_way 12 = .ok (.iload_n 2, 1) := by decide +kernel
theorem dX13_way_13 : decode cX13_way 13 = .ok (.invokevirtual 245, 3) := by decide +kernel
theorem dX13_way_16 : decode cX13_way 16 = .ok (.istore 4, 2) := by decide +kernel
theorem dX13_way_18 : decode cX13_way 18 = .ok (.iload 4, 2) := by decide +kernel
theorem dX13_way_20 : decode cX13_way 20 = .ok (.ifCond .lt 13, 3) := by decide +kernel
theorem dX13_way_23 : decode cX13_way 23 = .ok (.iload_n 3, 1) := by decide +kernel
theorem dX13_way_24 : decode cX13_way 24 = .ok (.iconst 0, 1) := by decide +kernel
theorem dX13_way_25 : decode cX13_way 25 = .ok (.iload 4, 2) := by decide +kernel
theorem dX13_way_27 : decode cX13_way 27 = .ok (.invokestatic 100, 3) := by decide +kernel
theorem dX13_way_30 : decode cX13_way 30 = .ok (.ifCond .ne 6, 3) := by decide +kernel
theorem dX13_way_33 : decode cX13_way 33 = .ok (.bipush (-4), 2) := by decide +kernel
theorem dX13_way_35 : decode cX13_way 35 = .ok (.ireturn, 1) := by decide +kernel
theorem dX13_way_36 : decode cX13_way 36 = .ok (.iload_n 1, 1) := by decide +kernel
theorem dX13_way_37 : decode cX13_way 37 = .ok (.istore 5, 2) := by decide +kernel
theorem dX13_way_39 : decode cX13_way 39 = .ok (.iconst 0, 1) := by decide +kernel
theorem dX13_way_40 : decode cX13_way 40 = .ok (.istore 6, 2) := by decide +kernel
theorem dX13_way_42 : decode cX13_way 42 = .ok (.iload 6, 2) := by decide +kernel
theorem dX13_way_44 : decode cX13_way 44 = .ok (.iload_n 3, 1) := by decide +kernel
theorem dX13_way_45 : decode cX13_way 45 = .ok (.if_icmp .ge 17, 3) := by decide +kernel
theorem dX13_way_48 : decode cX13_way 48 = .ok (.aload_n 0, 1) := by decide +kernel
theorem dX13_way_49 : decode cX13_way 49 = .ok (.iload 5, 2) := by decide +kernel
theorem dX13_way_51 : decode cX13_way 51 = .ok (.invokevirtual 270, 3) := by decide +kernel
theorem dX13_way_54 : decode cX13_way 54 = .ok (.istore 5, 2) := by decide +kernel
theorem dX13_way_56 : decode cX13_way 56 = .ok (.iinc 6 1, 3) := by decide +kernel
theorem dX13_way_59 : decode cX13_way 59 = .ok (.goto (-17), 3) := by decide +kernel
theorem dX13_way_62 : decode cX13_way 62 = .ok (.iload 5, 2) := by decide +kernel
theorem dX13_way_64 : decode cX13_way 64 = .ok (.ireturn, 1) := by decide +kernel
set_option maxRecDepth 20000 in
theorem ggX13_circles_X13_friends : GoodIn wsX13_circles wsX13_friends := goodIn_r _ [5, 6, 7, 8, 4, 9, 10, 11, 12, 13, 14, 15, 16, 17, 18, 19, 20, 21, 22, 23, 24, 25, 26, 27, 28, 29, 30, 31, 32, 33, 34, 35, 36, 37] (by decide +kernel) (by decide +kernel)
set_option maxRecDepth 20000 in
theorem gX13_circles_X13_friends : GoodIn wsX13_circles (wsV RX13 242 RX13 yX13_friends wsX13_friends) := goodIn_app (goodIn_of _ (by decide +kernel)) ggX13_circles_X13_friends
theorem dX13_circles_0 : decode cX13_circles 0 = .ok (.iconst 0, 1) := by decide +kernel
theorem dX13_circles_1 : decode cX13_circles 1 = .ok (.istore_n 1, 1) := by decide +kernel
theorem dX13_circles_2 : decode cX13_circles 2 = .ok (.iconst 0, 1) := by decide +kernel
theorem dX13_circles_3 : decode cX13_circles 3 = .ok (.istore_n 2, 1) := by decide +kernel
theorem dX13_circles_4 : decode cX13_circles 4 = .ok (.iconst 0, 1) := by decide +kernel
theorem dX13_circles_5 : decode cX13_circles 5 = .ok (.istore_n 3, 1) := by decide +kernel
theorem dX13_circles_6 : decode cX13_circles 6 = .ok (.iload_n 3, 1) := by decide +kernel
theorem dX13_circles_7 : decode cX13_circles 7 = .ok (.bipush 12, 2) := by decide +kernel
theorem dX13_circles_9 : decode cX13_circles 9 = .ok (.if_icmp .ge 93, 3) := by decide +kernel
theorem dX13_circles_12 : decode cX13_circles 12 = .ok (.iload_n 2, 1) := by decide +kernel
theorem dX13_circles_13 : decode cX13_circles 13 = .ok (.iload_n 3, 1) := by decide +kernel
theorem dX13_circles_14 : decode cX13_circles 14 = .ok (.ishr, 1) := by decide +kernel
theorem dX13_circles_15 : decode cX13_circles 15 = .ok (.iconst 1, 1) := by decide +kernel
theorem dX13_circles_16 : decode cX13_circles 16 = .ok (.iand, 1) := by decide +kernel
theorem dX13_circles_17 : decode cX13_circles 17 = .ok (.iconst 1, 1) := by decide +kernel
theorem dX13_circles_18 : decode cX13_circles 18 = .ok (.if_icmp .ne 6, 3) := by decide +kernel
theorem dX13_circles_21 : decode cX13_circles 21 = .ok (.goto 75, 3) := by decide +kernel
theorem dX13_circles_24 : decode cX13_circles 24 = .ok (.iinc 1 1, 3) := by decide +kernel
theorem dX13_circles_27 : decode cX13_circles 27 = .ok (.iconst 1, 1) := by decide +kernel
theorem dX13_circles_28 : decode cX13_circles 28 = .ok (.iload_n 3, 1) := by decide +kernel
theorem dX13_circles_29 : decode cX13_circles 29 = .ok (.ishl, 1) := by decide +kernel
theorem dX13_circles_30 : decode cX13_circles 30 = .ok (.istore 4, 2) := by decide +kernel
theorem dX13_circles_32 : decode cX13_circles 32 = .ok (.iconst 0, 1) := by decide +kernel
theorem dX13_circles_33 : decode cX13_circles 33 = .ok (.istore 5, 2) := by decide +kernel
theorem dX13_circles_35 : decode cX13_circles 35 = .ok (.iload 4, 2) := by decide +kernel
theorem dX13_circles_37 : decode cX13_circles 37 = .ok (.iload 5, 2) := by decide +kernel
theorem dX13_circles_39 : decode cX13_circles 39 = .ok (.if_icmp .eq 52, 3) := by decide +kernel
theorem dX13_circles_42 : decode cX13_circles 42 = .ok (.iload 4, 2) := by decide +kernel
theorem dX13_circles_44 : decode cX13_circles 44 = .ok (.istore 5, 2) := by decide +kernel
theorem dX13_circles_46 : decode cX13_circles 46 = .ok (.iconst 0, 1) := by decide +kernel
theorem dX13_circles_47 : decode cX13_circles 47 = .ok (.istore 6, 2) := by decide +kernel
theorem dX13_circles_49 : decode cX13_circles 49 = .ok (.iload 6, 2) := by decide +kernel
theorem dX13_circles_51 : decode cX13_circles 51 = .ok (.bipush 12, 2) := by decide +kernel
theorem dX13_circles_53 : decode cX13_circles 53 = .ok (.if_icmp .ge 35, 3) := by decide +kernel
theorem dX13_circles_56 : decode cX13_circles 56 = .ok (.iload 4, 2) := by decide +kernel
theorem dX13_circles_58 : decode cX13_circles 58 = .ok (.iload 5, 2) := by decide +kernel
theorem dX13_circles_60 : decode cX13_circles 60 = .ok (.iload 6, 2) := by decide +kernel
theorem dX13_circles_62 : decode cX13_circles 62 = .ok (.ishr, 1) := by decide +kernel
theorem dX13_circles_63 : decode cX13_circles 63 = .ok (.iconst 1, 1) := by decide +kernel
theorem dX13_circles_64 : decode cX13_circles 64 = .ok (.iand, 1) := by decide +kernel
theorem dX13_circles_65 : decode cX13_circles 65 = .ok (.iconst 1, 1) := by decide +kernel
theorem dX13_circles_66 : decode cX13_circles 66 = .ok (.if_icmp .ne 12, 3) := by decide +kernel
theorem dX13_circles_69 : decode cX13_circles 69 = .ok (.aload_n 0, 1) := by decide +kernel
theorem dX13_circles_70 : decode cX13_circles 70 = .ok (.iload 6, 2) := by decide +kernel
theorem dX13_circles_72 : decode cX13_circles 72 = .ok (.invokevirtual 242, 3) := by decide +kernel
theorem dX13_circles_75 : decode cX13_circles 75 = .ok (.goto 4, 3) := by decide +kernel
theorem dX13_circles_78 : decode cX13_circles 78 = .ok (.iconst 0, 1) := by decide +kernel
theorem dX13_circles_79 : decode cX13_circles 79 = .ok (.ior, 1) := by decide +kernel
theorem dX13_circles_80 : decode cX13_circles 80 = .ok (.istore 4, 2) := by decide +kernel
theorem dX13_circles_82 : decode cX13_circles 82 = .ok (.iinc 6 1, 3) := by decide +kernel
theorem dX13_circles_85 : decode cX13_circles 85 = .ok (.goto (-36), 3) := by decide +kernel
theorem dX13_circles_88 : decode cX13_circles 88 = .ok (.goto (-53), 3) := by decide +kernel
theorem dX13_circles_91 : decode cX13_circles 91 = .ok (.iload_n 2, 1) := by decide +kernel
theorem dX13_circles_92 : decode cX13_circles 92 = .ok (.iload 4, 2) := by decide +kernel
theorem dX13_circles_94 : decode cX13_circles 94 = .ok (.ior, 1) := by decide +kernel
theorem dX13_circles_95 : decode cX13_circles 95 = .ok (.istore_n 2, 1) := by decide +kernel
theorem dX13_circles_96 : decode cX13_circles 96 = .ok (.iinc 3 1, 3) := by decide +kernel
theorem dX13_circles_99 : decode cX13_circles 99 = .ok (.goto (-93), 3) := by decide +kernel
theorem dX13_circles_102 : decode cX13_circles 102 = .ok (.iload_n 1, 1) := by decide +kernel
theorem dX13_circles_103 : decode cX13_circles 103 = .ok (.ireturn, 1) := by decide +kernel
set_option maxRecDepth 20000 in
theorem ggX13_wouldGrow_X13_in : GoodIn wsX13_wouldGrow wsX13_in := goodIn_r _ [6] (by decide +kernel) (by decide +kernel)
set_option maxRecDepth 20000 in
theorem gX13_wouldGrow_X13_in : GoodIn wsX13_wouldGrow (va_wsS RX13 100 yX13_in wsX13_in) := goodIn_app (goodIn_of _ (by decide +kernel)) ggX13_wouldGrow_X13_in
set_option maxRecDepth 20000 in
theorem ggX13_wouldGrow_X13_copies : GoodIn wsX13_wouldGrow wsX13_copies := goodIn_r _ [9] (by decide +kernel) (by decide +kernel)
set_option maxRecDepth 20000 in
theorem gX13_wouldGrow_X13_copies : GoodIn wsX13_wouldGrow (va_wsS RX13 96 yX13_copies wsX13_copies) := goodIn_app (goodIn_of _ (by decide +kernel)) ggX13_wouldGrow_X13_copies
set_option maxRecDepth 20000 in
theorem ggX13_wouldGrow_X13_grows : GoodIn wsX13_wouldGrow wsX13_grows := goodIn_r _ [13, 1, 14, 15, 16, 5, 17, 18, 19, 20, 21, 3, 4, 6, 22, 23, 24, 25, 30, 31, 32, 33, 34, 35, 36, 37, 38, 39, 40, 41, 42, 43, 44, 45, 46, 47, 48, 49, 50, 51, 52, 53, 54, 55, 56] (by decide +kernel) (by decide +kernel)
set_option maxRecDepth 20000 in
theorem gX13_wouldGrow_X13_grows : GoodIn wsX13_wouldGrow (wsV RX13 227 RX13 yX13_grows wsX13_grows) := goodIn_app (goodIn_of _ (by decide +kernel)) ggX13_wouldGrow_X13_grows
set_option maxRecDepth 20000 in
theorem ggX13_wouldGrow_X13_allPlants : GoodIn wsX13_wouldGrow wsX13_allPlants := goodIn_r _ [29, 18, 19, 20, 5, 21, 1, 30, 31, 32, 33, 34, 35, 36, 37, 38, 39, 40, 41, 42, 43, 44, 45, 46, 47, 48, 49, 50, 51, 52, 53, 54, 55, 56] (by decide +kernel) (by decide +kernel)
set_option maxRecDepth 20000 in
theorem gX13_wouldGrow_X13_allPlants : GoodIn wsX13_wouldGrow (wsV RX13 128 RX13 yX13_allPlants wsX13_allPlants) := goodIn_app (goodIn_of _ (by decide +kernel)) ggX13_wouldGrow_X13_allPlants
theorem dX13_wouldGrow_0 : decode cX13_wouldGrow 0 = .ok (.iload_n 1, 1) := by decide +kernel
theorem dX13_wouldGrow_1 : decode cX13_wouldGrow 1 = .ok (.iconst 0, 1) := by decide +kernel
theorem dX13_wouldGrow_2 : decode cX13_wouldGrow 2 = .ok (.bipush 20, 2) := by decide +kernel
theorem dX13_wouldGrow_4 : decode cX13_wouldGrow 4 = .ok (.invokestatic 100, 3) := by decide +kernel
theorem dX13_wouldGrow_7 : decode cX13_wouldGrow 7 = .ok (.ifCond .ne 6, 3) := by decide +kernel
theorem dX13_wouldGrow_10 : decode cX13_wouldGrow 10 = .ok (.bipush (-2), 2) := by decide +kernel
theorem dX13_wouldGrow_12 : decode cX13_wouldGrow 12 = .ok (.ireturn, 1) := by decide +kernel
theorem dX13_wouldGrow_13 : decode cX13_wouldGrow 13 = .ok (.aload_n 0, 1) := by decide +kernel
theorem dX13_wouldGrow_14 : decode cX13_wouldGrow 14 = .ok (.getfield 7, 3) := by decide +kernel
theorem dX13_wouldGrow_17 : decode cX13_wouldGrow 17 = .ok (.iconst 0, 1) := by decide +kernel
theorem dX13_wouldGrow_18 : decode cX13_wouldGrow 18 = .ok (.aload_n 0, 1) := by decide +kernel
theorem dX13_wouldGrow_19 : decode cX13_wouldGrow 19 = .ok (.getfield 16, 3) := by decide +kernel
theorem dX13_wouldGrow_22 : decode cX13_wouldGrow 22 = .ok (.iconst 0, 1) := by decide +kernel
theorem dX13_wouldGrow_23 : decode cX13_wouldGrow 23 = .ok (.invokestatic 96, 3) := by decide +kernel
theorem dX13_wouldGrow_26 : decode cX13_wouldGrow 26 = .ok (.iconst 0, 1) := by decide +kernel
theorem dX13_wouldGrow_27 : decode cX13_wouldGrow 27 = .ok (.istore_n 2, 1) := by decide +kernel
theorem dX13_wouldGrow_28 : decode cX13_wouldGrow 28 = .ok (.iconst 0, 1) := by decide +kernel
theorem dX13_wouldGrow_29 : decode cX13_wouldGrow 29 = .ok (.istore_n 3, 1) := by decide +kernel
theorem dX13_wouldGrow_30 : decode cX13_wouldGrow 30 = .ok (.iload_n 3, 1) := by decide +kernel
theorem dX13_wouldGrow_31 : decode cX13_wouldGrow 31 = .ok (.iload_n 1, 1) := by decide +kernel
theorem dX13_wouldGrow_32 : decode cX13_wouldGrow 32 = .ok (.if_icmp .ge 14, 3) := by decide +kernel
theorem dX13_wouldGrow_35 : decode cX13_wouldGrow 35 = .ok (.aload_n 0, 1) := by decide +kernel
theorem dX13_wouldGrow_36 : decode cX13_wouldGrow 36 = .ok (.invokevirtual 227, 3) := by decide +kernel
theorem dX13_wouldGrow_39 : decode cX13_wouldGrow 39 = .ok (.istore_n 2, 1) := by decide +kernel
theorem dX13_wouldGrow_40 : decode cX13_wouldGrow 40 = .ok (.iinc 3 1, 3) := by decide +kernel
theorem dX13_wouldGrow_43 : decode cX13_wouldGrow 43 = .ok (.goto (-13), 3) := by decide +kernel
theorem dX13_wouldGrow_46 : decode cX13_wouldGrow 46 = .ok (.aload_n 0, 1) := by decide +kernel
theorem dX13_wouldGrow_47 : decode cX13_wouldGrow 47 = .ok (.invokevirtual 128, 3) := by decide +kernel
theorem dX13_wouldGrow_50 : decode cX13_wouldGrow 50 = .ok (.istore_n 3, 1) := by decide +kernel
theorem dX13_wouldGrow_51 : decode cX13_wouldGrow 51 = .ok (.aload_n 0, 1) := by decide +kernel
theorem dX13_wouldGrow_52 : decode cX13_wouldGrow 52 = .ok (.getfield 16, 3) := by decide +kernel
theorem dX13_wouldGrow_55 : decode cX13_wouldGrow 55 = .ok (.iconst 0, 1) := by decide +kernel
theorem dX13_wouldGrow_56 : decode cX13_wouldGrow 56 = .ok (.aload_n 0, 1) := by decide +kernel
theorem dX13_wouldGrow_57 : decode cX13_wouldGrow 57 = .ok (.getfield 7, 3) := by decide +kernel
theorem dX13_wouldGrow_60 : decode cX13_wouldGrow 60 = .ok (.iconst 0, 1) := by decide +kernel
theorem dX13_wouldGrow_61 : decode cX13_wouldGrow 61 = .ok (.invokestatic 96, 3) := by decide +kernel
theorem dX13_wouldGrow_64 : decode cX13_wouldGrow 64 = .ok (.iload_n 3, 1) := by decide +kernel
theorem dX13_wouldGrow_65 : decode cX13_wouldGrow 65 = .ok (.ireturn, 1) := by decide +kernel
set_option maxRecDepth 20000 in
theorem ggX13_isKinder_X13_given : GoodIn wsX13_isKinder wsX13_given := goodIn_r _ [5, 6, 7, 8, 4, 9, 10, 15, 16, 17, 18, 19, 20, 21, 22, 23, 24, 25, 26, 27, 28, 29, 30, 31, 32, 33, 34, 35, 36, 37, 38, 39, 40, 41] (by decide +kernel) (by decide +kernel)
set_option maxRecDepth 20000 in
theorem gX13_isKinder_X13_given : GoodIn wsX13_isKinder (wsV RX13 197 RX13 yX13_given wsX13_given) := goodIn_app (goodIn_of _ (by decide +kernel)) ggX13_isKinder_X13_given
set_option maxRecDepth 20000 in
theorem ggX13_isKinder_X13_got : GoodIn wsX13_isKinder wsX13_got := goodIn_r _ [14, 6, 7, 8, 4, 9, 10, 15, 16, 17, 18, 19, 20, 21, 22, 23, 24, 25, 26, 27, 28, 29, 30, 31, 32, 33, 34, 35, 36, 37, 38, 39, 40, 41] (by decide +kernel) (by decide +kernel)
set_option maxRecDepth 20000 in
theorem gX13_isKinder_X13_got : GoodIn wsX13_isKinder (wsV RX13 236 RX13 yX13_got wsX13_got) := goodIn_app (goodIn_of _ (by decide +kernel)) ggX13_isKinder_X13_got
theorem dX13_isKinder_0 : decode cX13_isKinder 0 = .ok (.aload_n 0, 1) := by decide +kernel
theorem dX13_isKinder_1 : decode cX13_isKinder 1 = .ok (.iload_n 1, 1) := by decide +kernel
theorem dX13_isKinder_2 : decode cX13_isKinder 2 = .ok (.invokevirtual 197, 3) := by decide +kernel
theorem dX13_isKinder_5 : decode cX13_isKinder 5 = .ok (.aload_n 0, 1) := by decide +kernel
theorem dX13_isKinder_6 : decode cX13_isKinder 6 = .ok (.iload_n 2, 1) := by decide +kernel
theorem dX13_isKinder_7 : decode cX13_isKinder 7 = .ok (.invokevirtual 197, 3) := by decide +kernel
theorem dX13_isKinder_10 : decode cX13_isKinder 10 = .ok (.if_icmp .eq 22, 3) := by decide +kernel
theorem dX13_isKinder_13 : decode cX13_isKinder 13 = .ok (.aload_n 0, 1) := by decide +kernel
theorem dX13_isKinder_14 : decode cX13_isKinder 14 = .ok (.iload_n 1, 1) := by decide +kernel
theorem dX13_isKinder_15 : decode cX13_isKinder 15 = .ok (.invokevirtual 197, 3) := by decide +kernel
theorem dX13_isKinder_18 : decode cX13_isKinder 18 = .ok (.aload_n 0, 1) := by decide +kernel
theorem dX13_isKinder_19 : decode cX13_isKinder 19 = .ok (.iload_n 2, 1) := by decide +kernel
theorem dX13_isKinder_20 : decode cX13_isKinder 20 = .ok (.invokevirtual 197, 3) := by decide +kernel
theorem dX13_isKinder_23 : decode cX13_isKinder 23 = .ok (.if_icmp .le 7, 3) := by decide +kernel
theorem dX13_isKinder_26 : decode cX13_isKinder 26 = .ok (.iconst 1, 1) := by decide +kernel
theorem dX13_isKinder_27 : decode cX13_isKinder 27 = .ok (.goto 4, 3) := by decide +kernel
theorem dX13_isKinder_30 : decode cX13_isKinder 30 = .ok (.iconst 0, 1) := by decide +kernel
theorem dX13_isKinder_31 : decode cX13_isKinder 31 = .ok (.ireturn, 1) := by decide +kernel
theorem dX13_isKinder_32 : decode cX13_isKinder 32 = .ok (.aload_n 0, 1) := by decide +kernel
theorem dX13_isKinder_33 : decode cX13_isKinder 33 = .ok (.iload_n 1, 1) := by decide +kernel
theorem dX13_isKinder_34 : decode cX13_isKinder 34 = .ok (.invokevirtual 236, 3) := by decide +kernel
theorem dX13_isKinder_37 : decode cX13_isKinder 37 = .ok (.aload_n 0, 1) := by decide +kernel
theorem dX13_isKinder_38 : decode cX13_isKinder 38 = .ok (.iload_n 2, 1) := by decide +kernel
theorem dX13_isKinder_39 : decode cX13_isKinder 39 = .ok (.invokevirtual 236, 3) := by decide +kernel
theorem dX13_isKinder_42 : decode cX13_isKinder 42 = .ok (.if_icmp .gt 21, 3) := by decide +kernel
theorem dX13_isKinder_45 : decode cX13_isKinder 45 = .ok (.aload_n 0, 1) := by decide +kernel
theorem dX13_isKinder_46 : decode cX13_isKinder 46 = .ok (.iload_n 1, 1) := by decide +kernel
theorem dX13_isKinder_47 : decode cX13_isKinder 47 = .ok (.invokevirtual 236, 3) := by decide +kernel
theorem dX13_isKinder_50 : decode cX13_isKinder 50 = .ok (.aload_n 0, 1) := by decide +kernel
theorem dX13_isKinder_51 : decode cX13_isKinder 51 = .ok (.iload_n 2, 1) := by decide +kernel
theorem dX13_isKinder_52 : decode cX13_isKinder 52 = .ok (.invokevirtual 236, 3) := by decide +kernel
theorem dX13_isKinder_55 : decode cX13_isKinder 55 = .ok (.if_icmp .ne 12, 3) := by decide +kernel
theorem dX13_isKinder_58 : decode cX13_isKinder 58 = .ok (.iload_n 1, 1) := by decide +kernel
theorem dX13_isKinder_59 : decode cX13_isKinder 59 = .ok (.iload_n 2, 1) := by decide +kernel
theorem dX13_isKinder_60 : decode cX13_isKinder 60 = .ok (.if_icmp .ge 7, 3) := by decide +kernel
theorem dX13_isKinder_63 : decode cX13_isKinder 63 = .ok (.iconst 1, 1) := by decide +kernel
theorem dX13_isKinder_64 : decode cX13_isKinder 64 = .ok (.goto 4, 3) := by decide +kernel
theorem dX13_isKinder_67 : decode cX13_isKinder 67 = .ok (.iconst 0, 1) := by decide +kernel
theorem dX13_isKinder_68 : decode cX13_isKinder 68 = .ok (.ireturn, 1) := by decide +kernel
set_option maxRecDepth 20000 in
theorem ggX13_kindest_X13_isKinder : GoodIn wsX13_kindest wsX13_isKinder := goodIn_r _ [5, 6, 7, 8, 4, 9, 10, 11, 12, 13, 14, 15, 16, 17, 18, 19, 20, 21, 22, 23, 24, 25, 26, 27, 28, 29, 30, 31, 32, 33, 34, 35, 36, 37, 38, 39, 40, 41, 42, 43, 44, 45] (by decide +kernel) (by decide +kernel)
set_option maxRecDepth 20000 in
theorem gX13_kindest_X13_isKinder : GoodIn wsX13_kindest (wsV RX13 273 RX13 yX13_isKinder wsX13_isKinder) := goodIn_app (goodIn_of _ (by decide +kernel)) ggX13_kindest_X13_isKinder
theorem dX13_kindest_0 : decode cX13_kindest 0 = .ok (.iconst 0, 1) := by decide +kernel
theorem dX13_kindest_1 : decode cX13_kindest 1 = .ok (.istore_n 2, 1) := by decide +kernel
theorem dX13_kindest_2 : decode cX13_kindest 2 = .ok (.iload_n 2, 1) := by decide +kernel
theorem dX13_kindest_3 : decode cX13_kindest 3 = .ok (.bipush 12, 2) := by decide +kernel
theorem dX13_kindest_5 : decode cX13_kindest 5 = .ok (.if_icmp .ge 52, 3) := by decide +kernel
theorem dX13_kindest_8 : decode cX13_kindest 8 = .ok (.iconst 0, 1) := by decide +kernel
theorem dX13_kindest_9 : decode cX13_kindest 9 = .ok (.istore_n 3, 1) := by decide +kernel
theorem dX13_kindest_10 : decode cX13_kindest 10 = .ok (.iconst 0, 1) := by decide +kernel
theorem dX13_kindest_11 : decode cX13_kindest 11 = .ok (.istore 4, 2) := by decide +kernel
theorem dX13_kindest_13 : decode cX13_kindest 13 = .ok (.iload 4, 2) := by decide +kernel
theorem dX13_kindest_15 : decode cX13_kindest 15 = .ok (.bipush 12, 2) := by decide +kernel
theorem dX13_kindest_17 : decode cX13_kindest 17 = .ok (.if_icmp .ge 27, 3) := by decide +kernel
theorem dX13_kindest_20 : decode cX13_kindest 20 = .ok (.iload_n 3, 1) := by decide +kernel
theorem dX13_kindest_21 : decode cX13_kindest 21 = .ok (.aload_n 0, 1) := by decide +kernel
theorem dX13_kindest_22 : decode cX13_kindest 22 = .ok (.iload 4, 2) := by decide +kernel
theorem dX13_kindest_24 : decode cX13_kindest 24 = .ok (.iload_n 2, 1) := by decide +kernel
theorem dX13_kindest_25 : decode cX13_kindest 25 = .ok (.invokevirtual 273, 3) := by decide +kernel
theorem dX13_kindest_28 : decode cX13_kindest 28 = .ok (.ifCond .eq 7, 3) := by decide +kernel
theorem dX13_kindest_31 : decode cX13_kindest 31 = .ok (.iconst 1, 1) := by decide +kernel
theorem dX13_kindest_32 : decode cX13_kindest 32 = .ok (.goto 4, 3) := by decide +kernel
theorem dX13_kindest_35 : decode cX13_kindest 35 = .ok (.iconst 0, 1) := by decide +kernel
theorem dX13_kindest_36 : decode cX13_kindest 36 = .ok (.iadd, 1) := by decide +kernel
theorem dX13_kindest_37 : decode cX13_kindest 37 = .ok (.istore_n 3, 1) := by decide +kernel
theorem dX13_kindest_38 : decode cX13_kindest 38 = .ok (.iinc 4 1, 3) := by decide +kernel
theorem dX13_kindest_41 : decode cX13_kindest 41 = .ok (.goto (-28), 3) := by decide +kernel
theorem dX13_kindest_44 : decode cX13_kindest 44 = .ok (.iload_n 3, 1) := by decide +kernel
theorem dX13_kindest_45 : decode cX13_kindest 45 = .ok (.iload_n 1, 1) := by decide +kernel
theorem dX13_kindest_46 : decode cX13_kindest 46 = .ok (.if_icmp .ne 5, 3) := by decide +kernel
theorem dX13_kindest_49 : decode cX13_kindest 49 = .ok (.iload_n 2, 1) := by decide +kernel
theorem dX13_kindest_50 : decode cX13_kindest 50 = .ok (.ireturn, 1) := by decide +kernel
theorem dX13_kindest_51 : decode cX13_kindest 51 = .ok (.iinc 2 1, 3) := by decide +kernel
theorem dX13_kindest_54 : decode cX13_kindest 54 = .ok (.goto (-52), 3) := by decide +kernel
theorem dX13_kindest_57 : decode cX13_kindest 57 = .ok (.iconst (-1), 1) := by decide +kernel
theorem dX13_kindest_58 : decode cX13_kindest 58 = .ok (.ireturn, 1) := by decide +kernel
set_option maxRecDepth 20000 in
theorem ggX13_isWorse_X13_feudsOf : GoodIn wsX13_isWorse wsX13_feudsOf := goodIn_r _ [5, 6, 7, 8, 4, 9, 10, 11, 12, 13, 14, 15, 16, 17, 18, 19, 20, 21, 22, 23, 24, 25, 26, 27, 28, 29, 30, 31, 32, 33, 34, 35, 36, 37, 38, 39, 40, 41, 42, 43, 44, 45, 46, 47, 48, 49, 50, 51, 52, 53, 54, 55, 56] (by decide +kernel) (by decide +kernel)
set_option maxRecDepth 20000 in
theorem gX13_isWorse_X13_feudsOf : GoodIn wsX13_isWorse (wsV RX13 125 RX13 yX13_feudsOf wsX13_feudsOf) := goodIn_app (goodIn_of _ (by decide +kernel)) ggX13_isWorse_X13_feudsOf
set_option maxRecDepth 20000 in
theorem ggX13_isWorse_X13_plants : GoodIn wsX13_isWorse wsX13_plants := goodIn_r _ [21, 14, 30, 31, 32, 33, 34, 35, 36, 37, 38, 39, 40, 41, 42, 43, 44, 45, 46, 47, 48, 49, 50, 51, 52, 53, 54, 55, 56] (by decide +kernel) (by decide +kernel)
set_option maxRecDepth 20000 in
theorem gX13_isWorse_X13_plants : GoodIn wsX13_isWorse (wsV RX13 104 RX13 yX13_plants wsX13_plants) := goodIn_app (goodIn_of _ (by decide +kernel)) ggX13_isWorse_X13_plants
theorem dX13_isWorse_0 : decode cX13_isWorse 0 = .ok (.aload_n 0, 1) := by decide +kernel
theorem dX13_isWorse_1 : decode cX13_isWorse 1 = .ok (.iload_n 1, 1) := by decide +kernel
theorem dX13_isWorse_2 : decode cX13_isWorse 2 = .ok (.invokevirtual 125, 3) := by decide +kernel
theorem dX13_isWorse_5 : decode cX13_isWorse 5 = .ok (.aload_n 0, 1) := by decide +kernel
theorem dX13_isWorse_6 : decode cX13_isWorse 6 = .ok (.iload_n 2, 1) := by decide +kernel
theorem dX13_isWorse_7 : decode cX13_isWorse 7 = .ok (.invokevirtual 125, 3) := by decide +kernel
theorem dX13_isWorse_10 : decode cX13_isWorse 10 = .ok (.if_icmp .eq 22, 3) := by decide +kernel
theorem dX13_isWorse_13 : decode cX13_isWorse 13 = .ok (.aload_n 0, 1) := by decide +kernel
theorem dX13_isWorse_14 : decode cX13_isWorse 14 = .ok (.iload_n 1, 1) := by decide +kernel
theorem dX13_isWorse_15 : decode cX13_isWorse 15 = .ok (.invokevirtual 125, 3) := by decide +kernel
theorem dX13_isWorse_18 : decode cX13_isWorse 18 = .ok (.aload_n 0, 1) := by decide +kernel
theorem dX13_isWorse_19 : decode cX13_isWorse 19 = .ok (.iload_n 2, 1) := by decide +kernel
theorem dX13_isWorse_20 : decode cX13_isWorse 20 = .ok (.invokevirtual 125, 3) := by decide +kernel
theorem dX13_isWorse_23 : decode cX13_isWorse 23 = .ok (.if_icmp .le 7, 3) := by decide +kernel
theorem dX13_isWorse_26 : decode cX13_isWorse 26 = .ok (.iconst 1, 1) := by decide +kernel
theorem dX13_isWorse_27 : decode cX13_isWorse 27 = .ok (.goto 4, 3) := by decide +kernel
theorem dX13_isWorse_30 : decode cX13_isWorse 30 = .ok (.iconst 0, 1) := by decide +kernel
theorem dX13_isWorse_31 : decode cX13_isWorse 31 = .ok (.ireturn, 1) := by decide +kernel
theorem dX13_isWorse_32 : decode cX13_isWorse 32 = .ok (.aload_n 0, 1) := by decide +kernel
theorem dX13_isWorse_33 : decode cX13_isWorse 33 = .ok (.iload_n 1, 1) := by decide +kernel
theorem dX13_isWorse_34 : decode cX13_isWorse 34 = .ok (.invokevirtual 104, 3) := by decide +kernel
theorem dX13_isWorse_37 : decode cX13_isWorse 37 = .ok (.aload_n 0, 1) := by decide +kernel
theorem dX13_isWorse_38 : decode cX13_isWorse 38 = .ok (.iload_n 2, 1) := by decide +kernel
theorem dX13_isWorse_39 : decode cX13_isWorse 39 = .ok (.invokevirtual 104, 3) := by decide +kernel
theorem dX13_isWorse_42 : decode cX13_isWorse 42 = .ok (.if_icmp .gt 21, 3) := by decide +kernel
theorem dX13_isWorse_45 : decode cX13_isWorse 45 = .ok (.aload_n 0, 1) := by decide +kernel
theorem dX13_isWorse_46 : decode cX13_isWorse 46 = .ok (.iload_n 1, 1) := by decide +kernel
theorem dX13_isWorse_47 : decode cX13_isWorse 47 = .ok (.invokevirtual 104, 3) := by decide +kernel
theorem dX13_isWorse_50 : decode cX13_isWorse 50 = .ok (.aload_n 0, 1) := by decide +kernel
theorem dX13_isWorse_51 : decode cX13_isWorse 51 = .ok (.iload_n 2, 1) := by decide +kernel
theorem dX13_isWorse_52 : decode cX13_isWorse 52 = .ok (.invokevirtual 104, 3) := by decide +kernel
theorem dX13_isWorse_55 : decode cX13_isWorse 55 = .ok (.if_icmp .ne 12, 3) := by decide +kernel
theorem dX13_isWorse_58 : decode cX13_isWorse 58 = .ok (.iload_n 1, 1) := by decide +kernel
theorem dX13_isWorse_59 : decode cX13_isWorse 59 = .ok (.iload_n 2, 1) := by decide +kernel
theorem dX13_isWorse_60 : decode cX13_isWorse 60 = .ok (.if_icmp .ge 7, 3) := by decide +kernel
theorem dX13_isWorse_63 : decode cX13_isWorse 63 = .ok (.iconst 1, 1) := by decide +kernel
theorem dX13_isWorse_64 : decode cX13_isWorse 64 = .ok (.goto 4, 3) := by decide +kernel
theorem dX13_isWorse_67 : decode cX13_isWorse 67 = .ok (.iconst 0, 1) := by decide +kernel
theorem dX13_isWorse_68 : decode cX13_isWorse 68 = .ok (.ireturn, 1) := by decide +kernel
set_option maxRecDepth 20000 in
theorem ggX13_worst_X13_isWorse : GoodIn wsX13_worst wsX13_isWorse := goodIn_r _ [5, 6, 7, 8, 4, 9, 10, 11, 12, 13, 14, 15, 16, 17, 18, 19, 20, 21, 22, 23, 24, 25, 26, 27, 28, 29, 30, 31, 32, 33, 34, 35, 36, 37, 38, 39, 40, 41, 42, 43, 44, 45, 46, 47, 48, 49, 50, 51, 52, 53, 54, 55, 56, 57, 58, 59, 60] (by decide +kernel) (by decide +kernel)
set_option maxRecDepth 20000 in
theorem gX13_worst_X13_isWorse : GoodIn wsX13_worst (wsV RX13 276 RX13 yX13_isWorse wsX13_isWorse) := goodIn_app (goodIn_of _ (by decide +kernel)) ggX13_worst_X13_isWorse
theorem dX13_worst_0 : decode cX13_worst 0 = .ok (.iconst 0, 1) := by decide +kernel
theorem dX13_worst_1 : decode cX13_worst 1 = .ok (.istore_n 2, 1) := by decide +kernel
theorem dX13_worst_2 : decode cX13_worst 2 = .ok (.iload_n 2, 1) := by decide +kernel
theorem dX13_worst_3 : decode cX13_worst 3 = .ok (.bipush 12, 2) := by decide +kernel
theorem dX13_worst_5 : decode cX13_worst 5 = .ok (.if_icmp .ge 52, 3) := by decide +kernel
theorem dX13_worst_8 : decode cX13_worst 8 = .ok (.iconst 0, 1) := by decide +kernel
theorem dX13_worst_9 : decode cX13_worst 9 = .ok (.istore_n 3, 1) := by decide +kernel
theorem dX13_worst_10 : decode cX13_worst 10 = .ok (.iconst 0, 1) := by decide +kernel
theorem dX13_worst_11 : decode cX13_worst 11 = .ok (.istore 4, 2) := by decide +kernel
theorem dX13_worst_13 : decode cX13_worst 13 = .ok (.iload 4, 2) := by decide +kernel
theorem dX13_worst_15 : decode cX13_worst 15 = .ok (.bipush 12, 2) := by decide +kernel
theorem dX13_worst_17 : decode cX13_worst 17 = .ok (.if_icmp .ge 27, 3) := by decide +kernel
theorem dX13_worst_20 : decode cX13_worst 20 = .ok (.iload_n 3, 1) := by decide +kernel
theorem dX13_worst_21 : decode cX13_worst 21 = .ok (.aload_n 0, 1) := by decide +kernel
theorem dX13_worst_22 : decode cX13_worst 22 = .ok (.iload 4, 2) := by decide +kernel
theorem dX13_worst_24 : decode cX13_worst 24 = .ok (.iload_n 2, 1) := by decide +kernel
theorem dX13_worst_25 : decode cX13_worst 25 = .ok (.invokevirtual 276, 3) := by decide +kernel
theorem dX13_worst_28 : decode cX13_worst 28 = .ok (.ifCond .eq 7, 3) := by decide +kernel
theorem dX13_worst_31 : decode cX13_worst 31 = .ok (.iconst 1, 1) := by decide +kernel
theorem dX13_worst_32 : decode cX13_worst 32 = .ok (.goto 4, 3) := by decide +kernel
theorem dX13_worst_35 : decode cX13_worst 35 = .ok (.iconst 0, 1) := by decide +kernel
theorem dX13_worst_36 : decode cX13_worst 36 = .ok (.iadd, 1) := by decide +kernel
theorem dX13_worst_37 : decode cX13_worst 37 = .ok (.istore_n 3, 1) := by decide +kernel
theorem dX13_worst_38 : decode cX13_worst 38 = .ok (.iinc 4 1, 3) := by decide +kernel
theorem dX13_worst_41 : decode cX13_worst 41 = .ok (.goto (-28), 3) := by decide +kernel
theorem dX13_worst_44 : decode cX13_worst 44 = .ok (.iload_n 3, 1) := by decide +kernel
theorem dX13_worst_45 : decode cX13_worst 45 = .ok (.iload_n 1, 1) := by decide +kernel
theorem dX13_worst_46 : decode cX13_worst 46 = .ok (.if_icmp .ne 5, 3) := by decide +kernel
theorem dX13_worst_49 : decode cX13_worst 49 = .ok (.iload_n 2, 1) := by decide +kernel
theorem dX13_worst_50 : decode cX13_worst 50 = .ok (.ireturn, 1) := by decide +kernel
theorem dX13_worst_51 : decode cX13_worst 51 = .ok (.iinc 2 1, 3) := by decide +kernel
theorem dX13_worst_54 : decode cX13_worst 54 = .ok (.goto (-52), 3) := by decide +kernel
theorem dX13_worst_57 : decode cX13_worst 57 = .ok (.iconst (-1), 1) := by decide +kernel
theorem dX13_worst_58 : decode cX13_worst 58 = .ok (.ireturn, 1) := by decide +kernel
theorem dX13_writes_0 : decode cX13_writes 0 = .ok (.aload_n 0, 1) := by decide +kernel
theorem dX13_writes_1 : decode cX13_writes 1 = .ok (.getfield 60, 3) := by decide +kernel
theorem dX13_writes_4 : decode cX13_writes 4 = .ok (.aload_n 0, 1) := by decide +kernel
theorem dX13_writes_5 : decode cX13_writes 5 = .ok (.getfield 63, 3) := by decide +kernel
theorem dX13_writes_8 : decode cX13_writes 8 = .ok (.iload_n 1, 1) := by decide +kernel
theorem dX13_writes_9 : decode cX13_writes 9 = .ok (.iastore, 1) := by decide +kernel
theorem dX13_writes_10 : decode cX13_writes 10 = .ok (.aload_n 0, 1) := by decide +kernel
theorem dX13_writes_11 : decode cX13_writes 11 = .ok (.dup, 1) := by decide +kernel
theorem dX13_writes_12 : decode cX13_writes 12 = .ok (.getfield 63, 3) := by decide +kernel
theorem dX13_writes_15 : decode cX13_writes 15 = .ok (.iconst 1, 1) := by decide +kernel
theorem dX13_writes_16 : decode cX13_writes 16 = .ok (.iadd, 1) := by decide +kernel
theorem dX13_writes_17 : decode cX13_writes 17 = .ok (.putfield 63, 3) := by decide +kernel
theorem dX13_writes_20 : decode cX13_writes 20 = .ok (.return_, 1) := by decide +kernel
set_option maxRecDepth 20000 in
theorem ggX13_writesNumber_X13_writes : GoodIn wsX13_writesNumber wsX13_writes := goodIn_r _ [5, 6, 7, 8, 9, 10, 11, 12, 13, 14, 15, 16, 17, 18, 19, 20, 21, 22, 23, 24, 25, 26, 27, 28, 29, 30, 31, 32, 33, 34] (by decide +kernel) (by decide +kernel)
set_option maxRecDepth 20000 in
theorem gX13_writesNumber_X13_writes : GoodIn wsX13_writesNumber (wsV RX13 279 RX13 yX13_writes wsX13_writes) := goodIn_app (goodIn_of _ (by decide +kernel)) ggX13_writesNumber_X13_writes
theorem dX13_writesNumber_0 : decode cX13_writesNumber 0 = .ok (.iload_n 1, 1) := by decide +kernel
theorem dX13_writesNumber_1 : decode cX13_writesNumber 1 = .ok (.bipush 9, 2) := by decide +kernel
theorem dX13_writesNumber_3 : decode cX13_writesNumber 3 = .ok (.if_icmp .le 14, 3) := by decide +kernel
theorem dX13_writesNumber_6 : decode cX13_writesNumber 6 = .ok (.aload_n 0, 1) := by decide +kernel
theorem dX13_writesNumber_7 : decode cX13_writesNumber 7 = .ok (.bipush 48, 2) := by decide +kernel
theorem dX13_writesNumber_9 : decode cX13_writesNumber 9 = .ok (.iload_n 1, 1) := by decide +kernel
theorem dX13_writesNumber_10 : decode cX13_writesNumber 10 = .ok (.bipush 10, 2) := by decide +kernel
theorem dX13_writesNumber_12 : decode cX13_writesNumber 12 = .ok (.idiv, 1) := by decide +kernel
theorem dX13_writesNumber_13 : decode cX13_writesNumber 13 = .ok (.iadd, 1) := by decide +kernel
theorem dX13_writesNumber_14 : decode cX13_writesNumber 14 = .ok (.invokevirtual 279, 3) := by decide +kernel
theorem dX13_writesNumber_17 : decode cX13_writesNumber 17 = .ok (.aload_n 0, 1) := by decide +kernel
theorem dX13_writesNumber_18 : decode cX13_writesNumber 18 = .ok (.bipush 48, 2) := by decide +kernel
theorem dX13_writesNumber_20 : decode cX13_writesNumber 20 = .ok (.iload_n 1, 1) := by decide +kernel
theorem dX13_writesNumber_21 : decode cX13_writesNumber 21 = .ok (.bipush 10, 2) := by decide +kernel
theorem dX13_writesNumber_23 : decode cX13_writesNumber 23 = .ok (.irem, 1) := by decide +kernel
theorem dX13_writesNumber_24 : decode cX13_writesNumber 24 = .ok (.iadd, 1) := by decide +kernel
theorem dX13_writesNumber_25 : decode cX13_writesNumber 25 = .ok (.invokevirtual 279, 3) := by decide +kernel
theorem dX13_writesNumber_28 : decode cX13_writesNumber 28 = .ok (.return_, 1) := by decide +kernel
set_option maxRecDepth 20000 in
theorem ggX13_write_X13_in : GoodIn wsX13_write wsX13_in := goodIn_r _ [5] (by decide +kernel) (by decide +kernel)
set_option maxRecDepth 20000 in
theorem gX13_write_X13_in : GoodIn wsX13_write (va_wsS RX13 100 yX13_in wsX13_in) := goodIn_app (goodIn_of _ (by decide +kernel)) ggX13_write_X13_in
set_option maxRecDepth 20000 in
theorem ggX13_write_X13_writes : GoodIn wsX13_write wsX13_writes := goodIn_r _ [9, 10, 1, 51, 52, 53, 54, 55, 56, 57, 58, 59, 60, 61, 62, 63, 64, 65, 66, 67, 68, 69, 70, 71, 72, 73, 74, 75, 76, 77] (by decide +kernel) (by decide +kernel)
set_option maxRecDepth 20000 in
theorem gX13_write_X13_writes : GoodIn wsX13_write (wsV RX13 279 RX13 yX13_writes wsX13_writes) := goodIn_app (goodIn_of _ (by decide +kernel)) ggX13_write_X13_writes
set_option maxRecDepth 20000 in
theorem ggX13_write_X13_plants : GoodIn wsX13_write wsX13_plants := goodIn_r _ [14, 15, 51, 52, 53, 54, 55, 56, 57, 58, 59, 60, 61, 62, 63, 64, 65, 66, 67, 68, 69, 70, 71, 72, 73, 74, 75, 76, 77] (by decide +kernel) (by decide +kernel)
set_option maxRecDepth 20000 in
theorem gX13_write_X13_plants : GoodIn wsX13_write (wsV RX13 104 RX13 yX13_plants wsX13_plants) := goodIn_app (goodIn_of _ (by decide +kernel)) ggX13_write_X13_plants
set_option maxRecDepth 20000 in
theorem ggX13_write_X13_writesNumber : GoodIn wsX13_write wsX13_writesNumber := goodIn_r _ [19, 6, 7, 8, 4, 9, 10, 1, 51, 52, 53, 54, 55, 56, 57, 58, 59, 60, 61, 62, 63, 64, 65, 66, 67, 68, 69, 70, 71, 72, 73, 74, 75, 76, 77] (by decide +kernel) (by decide +kernel)
set_option maxRecDepth 20000 in
theorem gX13_write_X13_writesNumber : GoodIn wsX13_write (wsV RX13 282 RX13 yX13_writesNumber wsX13_writesNumber) := goodIn_app (goodIn_of _ (by decide +kernel)) ggX13_write_X13_writesNumber
set_option maxRecDepth 20000 in
theorem ggX13_write_X13_catOn : GoodIn wsX13_write wsX13_catOn := goodIn_r _ [23, 15, 24, 25, 26, 4, 27, 51, 52, 53, 54, 55, 56, 57, 58, 59, 60, 61, 62, 63, 64, 65, 66, 67, 68, 69, 70, 71, 72, 73, 74, 75, 76, 77] (by decide +kernel) (by decide +kernel)
set_option maxRecDepth 20000 in
theorem gX13_write_X13_catOn : GoodIn wsX13_write (wsV RX13 203 RX13 yX13_catOn wsX13_catOn) := goodIn_app (goodIn_of _ (by decide +kernel)) ggX13_write_X13_catOn
set_option maxRecDepth 20000 in
theorem ggX13_write_X13_feudsOf : GoodIn wsX13_write wsX13_feudsOf := goodIn_r _ [31, 32, 33, 34, 4, 35, 36, 37, 38, 39, 15, 40, 41, 42, 11, 12, 13, 14, 43, 44, 45, 46, 47, 48, 49, 50, 51, 52, 53, 54, 55, 56, 57, 58, 59, 60, 61, 62, 63, 64, 65, 66, 67, 68, 69, 70, 71, 72, 73, 74, 75, 76, 77] (by decide +kernel) (by decide +kernel)
set_option maxRecDepth 20000 in
theorem gX13_write_X13_feudsOf : GoodIn wsX13_write (wsV RX13 125 RX13 yX13_feudsOf wsX13_feudsOf) := goodIn_app (goodIn_of _ (by decide +kernel)) ggX13_write_X13_feudsOf
theorem dX13_write_0 : decode cX13_write 0 = .ok (.iload_n 1, 1) := by decide +kernel
theorem dX13_write_1 : decode cX13_write 1 = .ok (.iconst 0, 1) := by decide +kernel
theorem dX13_write_2 : decode cX13_write 2 = .ok (.iconst 2, 1) := by decide +kernel
theorem dX13_write_3 : decode cX13_write 3 = .ok (.invokestatic 100, 3) := by decide +kernel
theorem dX13_write_6 : decode cX13_write 6 = .ok (.ifCond .ne 5, 3) := by decide +kernel
theorem dX13_write_9 : decode cX13_write 9 = .ok (.iconst (-1), 1) := by decide +kernel
theorem dX13_write_10 : decode cX13_write 10 = .ok (.ireturn, 1) := by decide +kernel
theorem dX13_write_11 : decode cX13_write 11 = .ok (.aload_n 0, 1) := by decide +kernel
theorem dX13_write_12 : decode cX13_write 12 = .ok (.iconst 0, 1) := by decide +kernel
theorem dX13_write_13 : decode cX13_write 13 = .ok (.putfield 63, 3) := by decide +kernel
theorem dX13_write_16 : decode cX13_write 16 = .ok (.iconst 4, 1) := by decide +kernel
theorem dX13_write_17 : decode cX13_write 17 = .ok (.iload_n 1, 1) := by decide +kernel
theorem dX13_write_18 : decode cX13_write 18 = .ok (.imul, 1) := by decide +kernel
theorem dX13_write_19 : decode cX13_write 19 = .ok (.istore_n 2, 1) := by decide +kernel
theorem dX13_write_20 : decode cX13_write 20 = .ok (.iload_n 2, 1) := by decide +kernel
theorem dX13_write_21 : decode cX13_write 21 = .ok (.iconst 4, 1) := by decide +kernel
theorem dX13_write_22 : decode cX13_write 22 = .ok (.iload_n 1, 1) := by decide +kernel
theorem dX13_write_23 : decode cX13_write 23 = .ok (.imul, 1) := by decide +kernel
theorem dX13_write_24 : decode cX13_write 24 = .ok (.iconst 4, 1) := by decide +kernel
theorem dX13_write_25 : decode cX13_write 25 = .ok (.iadd, 1) := by decide +kernel
theorem dX13_write_26 : decode cX13_write 26 = .ok (.if_icmp .ge 65, 3) := by decide +kernel
theorem dX13_write_29 : decode cX13_write 29 = .ok (.aload_n 0, 1) := by decide +kernel
theorem dX13_write_30 : decode cX13_write 30 = .ok (.getfield 63, 3) := by decide +kernel
theorem dX13_write_33 : decode cX13_write 33 = .ok (.ifCond .le 9, 3) := by decide +kernel
theorem dX13_write_36 : decode cX13_write 36 = .ok (.aload_n 0, 1) := by decide +kernel
theorem dX13_write_37 : decode cX13_write 37 = .ok (.bipush 32, 2) := by decide +kernel
theorem dX13_write_39 : decode cX13_write 39 = .ok (.invokevirtual 279, 3) := by decide +kernel
theorem dX13_write_42 : decode cX13_write 42 = .ok (.aload_n 0, 1) := by decide +kernel
theorem dX13_write_43 : decode cX13_write 43 = .ok (.aload_n 0, 1) := by decide +kernel
theorem dX13_write_44 : decode cX13_write 44 = .ok (.iload_n 2, 1) := by decide +kernel
theorem dX13_write_45 : decode cX13_write 45 = .ok (.invokevirtual 104, 3) := by decide +kernel
theorem dX13_write_48 : decode cX13_write 48 = .ok (.invokevirtual 282, 3) := by decide +kernel
theorem dX13_write_51 : decode cX13_write 51 = .ok (.aload_n 0, 1) := by decide +kernel
theorem dX13_write_52 : decode cX13_write 52 = .ok (.iload_n 2, 1) := by decide +kernel
theorem dX13_write_53 : decode cX13_write 53 = .ok (.invokevirtual 203, 3) := by decide +kernel
theorem dX13_write_56 : decode cX13_write 56 = .ok (.ifCond .lt 15, 3) := by decide +kernel
theorem dX13_write_59 : decode cX13_write 59 = .ok (.aload_n 0, 1) := by decide +kernel
theorem dX13_write_60 : decode cX13_write 60 = .ok (.bipush 97, 2) := by decide +kernel
theorem dX13_write_62 : decode cX13_write 62 = .ok (.aload_n 0, 1) := by decide +kernel
theorem dX13_write_63 : decode cX13_write 63 = .ok (.iload_n 2, 1) := by decide +kernel
theorem dX13_write_64 : decode cX13_write 64 = .ok (.invokevirtual 203, 3) := by decide +kernel
theorem dX13_write_67 : decode cX13_write 67 = .ok (.iadd, 1) := by decide +kernel
theorem dX13_write_68 : decode cX13_write 68 = .ok (.invokevirtual 279, 3) := by decide +kernel
theorem dX13_write_71 : decode cX13_write 71 = .ok (.aload_n 0, 1) := by decide +kernel
theorem dX13_write_72 : decode cX13_write 72 = .ok (.iload_n 2, 1) := by decide +kernel
theorem dX13_write_73 : decode cX13_write 73 = .ok (.invokevirtual 125, 3) := by decide +kernel
theorem dX13_write_76 : decode cX13_write 76 = .ok (.ifCond .le 9, 3) := by decide +kernel
theorem dX13_write_79 : decode cX13_write 79 = .ok (.aload_n 0, 1) := by decide +kernel
theorem dX13_write_80 : decode cX13_write 80 = .ok (.bipush 33, 2) := by decide +kernel
theorem dX13_write_82 : decode cX13_write 82 = .ok (.invokevirtual 279, 3) := by decide +kernel
theorem dX13_write_85 : decode cX13_write 85 = .ok (.iinc 2 1, 3) := by decide +kernel
theorem dX13_write_88 : decode cX13_write 88 = .ok (.goto (-68), 3) := by decide +kernel
theorem dX13_write_91 : decode cX13_write 91 = .ok (.aload_n 0, 1) := by decide +kernel
theorem dX13_write_92 : decode cX13_write 92 = .ok (.getfield 63, 3) := by decide +kernel
theorem dX13_write_95 : decode cX13_write 95 = .ok (.ireturn, 1) := by decide +kernel
set_option maxRecDepth 20000 in
theorem ggX13_writeLines_X13_writes : GoodIn wsX13_writeLines wsX13_writes := goodIn_r _ [7, 8, 1, 17, 18, 19, 20, 21, 22, 23, 24, 25, 26, 27, 28, 29, 30, 31, 32, 33, 34, 35, 36, 37, 38, 39, 40, 41, 42, 43] (by decide +kernel) (by decide +kernel)
set_option maxRecDepth 20000 in
theorem gX13_writeLines_X13_writes : GoodIn wsX13_writeLines (wsV RX13 279 RX13 yX13_writes wsX13_writes) := goodIn_app (goodIn_of _ (by decide +kernel)) ggX13_writeLines_X13_writes
set_option maxRecDepth 20000 in
theorem ggX13_writeLines_X13_linePart : GoodIn wsX13_writeLines wsX13_linePart := goodIn_r _ [12, 2, 17, 18, 19, 20, 21, 22, 23, 24, 25, 26, 27, 28, 29, 30, 31, 32, 33, 34, 35, 36, 37, 38, 39, 40, 41, 42, 43] (by decide +kernel) (by decide +kernel)
set_option maxRecDepth 20000 in
theorem gX13_writeLines_X13_linePart : GoodIn wsX13_writeLines (wsV RX13 108 RX13 yX13_linePart wsX13_linePart) := goodIn_app (goodIn_of _ (by decide +kernel)) ggX13_writeLines_X13_linePart
set_option maxRecDepth 20000 in
theorem ggX13_writeLines_X13_writesNumber : GoodIn wsX13_writeLines wsX13_writesNumber := goodIn_r _ [16, 3, 4, 5, 6, 7, 8, 1, 17, 18, 19, 20, 21, 22, 23, 24, 25, 26, 27, 28, 29, 30, 31, 32, 33, 34, 35, 36, 37, 38, 39, 40, 41, 42, 43] (by decide +kernel) (by decide +kernel)
set_option maxRecDepth 20000 in
theorem gX13_writeLines_X13_writesNumber : GoodIn wsX13_writeLines (wsV RX13 282 RX13 yX13_writesNumber wsX13_writesNumber) := goodIn_app (goodIn_of _ (by decide +kernel)) ggX13_writeLines_X13_writesNumber
theorem dX13_writeLines_0 : decode cX13_writeLines 0 = .ok (.aload_n 0, 1) := by decide +kernel
theorem dX13_writeLines_1 : decode cX13_writeLines 1 = .ok (.iconst 0, 1) := by decide +kernel
theorem dX13_writeLines_2 : decode cX13_writeLines 2 = .ok (.putfield 63, 3) := by decide +kernel
theorem dX13_writeLines_5 : decode cX13_writeLines 5 = .ok (.iconst 0, 1) := by decide +kernel
theorem dX13_writeLines_6 : decode cX13_writeLines 6 = .ok (.istore_n 1, 1) := by decide +kernel
theorem dX13_writeLines_7 : decode cX13_writeLines 7 = .ok (.iload_n 1, 1) := by decide +kernel
theorem dX13_writeLines_8 : decode cX13_writeLines 8 = .ok (.aload_n 0, 1) := by decide +kernel
theorem dX13_writeLines_9 : decode cX13_writeLines 9 = .ok (.getfield 7, 3) := by decide +kernel
theorem dX13_writeLines_12 : decode cX13_writeLines 12 = .ok (.iconst 0, 1) := by decide +kernel
theorem dX13_writeLines_13 : decode cX13_writeLines 13 = .ok (.iaload, 1) := by decide +kernel
theorem dX13_writeLines_14 : decode cX13_writeLines 14 = .ok (.if_icmp .ge 64, 3) := by decide +kernel
theorem dX13_writeLines_17 : decode cX13_writeLines 17 = .ok (.aload_n 0, 1) := by decide +kernel
theorem dX13_writeLines_18 : decode cX13_writeLines 18 = .ok (.getfield 63, 3) := by decide +kernel
theorem dX13_writeLines_21 : decode cX13_writeLines 21 = .ok (.ifCond .le 9, 3) := by decide +kernel
theorem dX13_writeLines_24 : decode cX13_writeLines 24 = .ok (.aload_n 0, 1) := by decide +kernel
theorem dX13_writeLines_25 : decode cX13_writeLines 25 = .ok (.bipush 32, 2) := by decide +kernel
theorem dX13_writeLines_27 : decode cX13_writeLines 27 = .ok (.invokevirtual 279, 3) := by decide +kernel
theorem dX13_writeLines_30 : decode cX13_writeLines 30 = .ok (.aload_n 0, 1) := by decide +kernel
theorem dX13_writeLines_31 : decode cX13_writeLines 31 = .ok (.aload_n 0, 1) := by decide +kernel
theorem dX13_writeLines_32 : decode cX13_writeLines 32 = .ok (.iload_n 1, 1) := by decide +kernel
theorem dX13_writeLines_33 : decode cX13_writeLines 33 = .ok (.iconst 0, 1) := by decide +kernel
theorem dX13_writeLines_34 : decode cX13_writeLines 34 = .ok (.invokevirtual 108, 3) := by decide +kernel
theorem dX13_writeLines_37 : decode cX13_writeLines 37 = .ok (.invokevirtual 282, 3) := by decide +kernel
theorem dX13_writeLines_40 : decode cX13_writeLines 40 = .ok (.aload_n 0, 1) := by decide +kernel
theorem dX13_writeLines_41 : decode cX13_writeLines 41 = .ok (.bipush 45, 2) := by decide +kernel
theorem dX13_writeLines_43 : decode cX13_writeLines 43 = .ok (.invokevirtual 279, 3) := by decide +kernel
theorem dX13_writeLines_46 : decode cX13_writeLines 46 = .ok (.aload_n 0, 1) := by decide +kernel
theorem dX13_writeLines_47 : decode cX13_writeLines 47 = .ok (.aload_n 0, 1) := by decide +kernel
theorem dX13_writeLines_48 : decode cX13_writeLines 48 = .ok (.iload_n 1, 1) := by decide +kernel
theorem dX13_writeLines_49 : decode cX13_writeLines 49 = .ok (.iconst 1, 1) := by decide +kernel
theorem dX13_writeLines_50 : decode cX13_writeLines 50 = .ok (.invokevirtual 108, 3) := by decide +kernel
theorem dX13_writeLines_53 : decode cX13_writeLines 53 = .ok (.invokevirtual 282, 3) := by decide +kernel
theorem dX13_writeLines_56 : decode cX13_writeLines 56 = .ok (.aload_n 0, 1) := by decide +kernel
theorem dX13_writeLines_57 : decode cX13_writeLines 57 = .ok (.bipush 58, 2) := by decide +kernel
theorem dX13_writeLines_59 : decode cX13_writeLines 59 = .ok (.invokevirtual 279, 3) := by decide +kernel
theorem dX13_writeLines_62 : decode cX13_writeLines 62 = .ok (.aload_n 0, 1) := by decide +kernel
theorem dX13_writeLines_63 : decode cX13_writeLines 63 = .ok (.aload_n 0, 1) := by decide +kernel
theorem dX13_writeLines_64 : decode cX13_writeLines 64 = .ok (.iload_n 1, 1) := by decide +kernel
theorem dX13_writeLines_65 : decode cX13_writeLines 65 = .ok (.iconst 2, 1) := by decide +kernel
theorem dX13_writeLines_66 : decode cX13_writeLines 66 = .ok (.invokevirtual 108, 3) := by decide +kernel
theorem dX13_writeLines_69 : decode cX13_writeLines 69 = .ok (.invokevirtual 282, 3) := by decide +kernel
theorem dX13_writeLines_72 : decode cX13_writeLines 72 = .ok (.iinc 1 1, 3) := by decide +kernel
theorem dX13_writeLines_75 : decode cX13_writeLines 75 = .ok (.goto (-68), 3) := by decide +kernel
theorem dX13_writeLines_78 : decode cX13_writeLines 78 = .ok (.aload_n 0, 1) := by decide +kernel
theorem dX13_writeLines_79 : decode cX13_writeLines 79 = .ok (.getfield 63, 3) := by decide +kernel
theorem dX13_writeLines_82 : decode cX13_writeLines 82 = .ok (.ireturn, 1) := by decide +kernel
set_option maxRecDepth 20000 in
theorem ggX13_written_X13_in : GoodIn wsX13_written wsX13_in := goodIn_r _ [6] (by decide +kernel) (by decide +kernel)
set_option maxRecDepth 20000 in
theorem gX13_written_X13_in : GoodIn wsX13_written (va_wsS RX13 100 yX13_in wsX13_in) := goodIn_app (goodIn_of _ (by decide +kernel)) ggX13_written_X13_in
theorem dX13_written_0 : decode cX13_written 0 = .ok (.iload_n 1, 1) := by decide +kernel
theorem dX13_written_1 : decode cX13_written 1 = .ok (.iconst 0, 1) := by decide +kernel
theorem dX13_written_2 : decode cX13_written 2 = .ok (.aload_n 0, 1) := by decide +kernel
theorem dX13_written_3 : decode cX13_written 3 = .ok (.getfield 63, 3) := by decide +kernel
theorem dX13_written_6 : decode cX13_written 6 = .ok (.iconst 1, 1) := by decide +kernel
theorem dX13_written_7 : decode cX13_written 7 = .ok (.isub, 1) := by decide +kernel
theorem dX13_written_8 : decode cX13_written 8 = .ok (.invokestatic 100, 3) := by decide +kernel
theorem dX13_written_11 : decode cX13_written 11 = .ok (.ifCond .eq 12, 3) := by decide +kernel
theorem dX13_written_14 : decode cX13_written 14 = .ok (.aload_n 0, 1) := by decide +kernel
theorem dX13_written_15 : decode cX13_written 15 = .ok (.getfield 60, 3) := by decide +kernel
theorem dX13_written_18 : decode cX13_written 18 = .ok (.iload_n 1, 1) := by decide +kernel
theorem dX13_written_19 : decode cX13_written 19 = .ok (.iaload, 1) := by decide +kernel
theorem dX13_written_20 : decode cX13_written 20 = .ok (.goto 4, 3) := by decide +kernel
theorem dX13_written_23 : decode cX13_written 23 = .ok (.iconst (-1), 1) := by decide +kernel
theorem dX13_written_24 : decode cX13_written 24 = .ok (.ireturn, 1) := by decide +kernel
theorem dX13_isWell_0 : decode cX13_isWell 0 = .ok (.iconst 1, 1) := by decide +kernel
theorem dX13_isWell_1 : decode cX13_isWell 1 = .ok (.ireturn, 1) := by decide +kernel
set_option maxRecDepth 20000 in
theorem ggX13_meanPlants_X13_allPlants : GoodIn wsX13_meanPlants wsX13_allPlants := goodIn_r _ [6, 7, 8, 9, 5, 10, 11, 12, 13, 14, 15, 16, 17, 18, 19, 20, 21, 22, 23, 24, 25, 26, 27, 28, 29, 30, 31, 32, 33, 34, 35, 36, 37, 38] (by decide +kernel) (by decide +kernel)
set_option maxRecDepth 20000 in
theorem gX13_meanPlants_X13_allPlants : GoodIn wsX13_meanPlants (wsV RX13 128 RX13 yX13_allPlants wsX13_allPlants) := goodIn_app (goodIn_of _ (by decide +kernel)) ggX13_meanPlants_X13_allPlants
theorem dX13_meanPlants_0 : decode cX13_meanPlants 0 = .ok (.aload_n 0, 1) := by decide +kernel
theorem dX13_meanPlants_1 : decode cX13_meanPlants 1 = .ok (.invokevirtual 128, 3) := by decide +kernel
theorem dX13_meanPlants_4 : decode cX13_meanPlants 4 = .ok (.i2d, 1) := by decide +kernel
theorem dX13_meanPlants_5 : decode cX13_meanPlants 5 = .ok (.ldc2_w 285, 3) := by decide +kernel
theorem dX13_meanPlants_8 : decode cX13_meanPlants 8 = .ok (.ddiv, 1) := by decide +kernel
theorem dX13_meanPlants_9 : decode cX13_meanPlants 9 = .ok (.dreturn, 1) := by decide +kernel
set_option maxRecDepth 20000 in
theorem ggX13_homeShare_X13_atHome : GoodIn wsX13_homeShare wsX13_atHome := goodIn_r _ [6, 1, 7, 8, 9, 5, 10, 11, 12, 13, 14, 15, 16, 17, 18, 19, 20, 21, 22, 23, 24, 25, 26, 27, 28, 29, 30, 31, 32, 33, 34, 35, 36, 37] (by decide +kernel) (by decide +kernel)
set_option maxRecDepth 20000 in
theorem gX13_homeShare_X13_atHome : GoodIn wsX13_homeShare (wsV RX13 287 RX13 yX13_atHome wsX13_atHome) := goodIn_app (goodIn_of _ (by decide +kernel)) ggX13_homeShare_X13_atHome
theorem dX13_homeShare_0 : decode cX13_homeShare 0 = .ok (.aload_n 0, 1) := by decide +kernel
theorem dX13_homeShare_1 : decode cX13_homeShare 1 = .ok (.getfield 7, 3) := by decide +kernel
theorem dX13_homeShare_4 : decode cX13_homeShare 4 = .ok (.iconst 1, 1) := by decide +kernel
theorem dX13_homeShare_5 : decode cX13_homeShare 5 = .ok (.iaload, 1) := by decide +kernel
theorem dX13_homeShare_6 : decode cX13_homeShare 6 = .ok (.ifCond .ne 7, 3) := by decide +kernel
theorem dX13_homeShare_9 : decode cX13_homeShare 9 = .ok (.fconst 0, 1) := by decide +kernel
theorem dX13_homeShare_10 : decode cX13_homeShare 10 = .ok (.goto 16, 3) := by decide +kernel
theorem dX13_homeShare_13 : decode cX13_homeShare 13 = .ok (.aload_n 0, 1) := by decide +kernel
theorem dX13_homeShare_14 : decode cX13_homeShare 14 = .ok (.invokevirtual 287, 3) := by decide +kernel
theorem dX13_homeShare_17 : decode cX13_homeShare 17 = .ok (.i2f, 1) := by decide +kernel
theorem dX13_homeShare_18 : decode cX13_homeShare 18 = .ok (.aload_n 0, 1) := by decide +kernel
theorem dX13_homeShare_19 : decode cX13_homeShare 19 = .ok (.getfield 7, 3) := by decide +kernel
theorem dX13_homeShare_22 : decode cX13_homeShare 22 = .ok (.iconst 1, 1) := by decide +kernel
theorem dX13_homeShare_23 : decode cX13_homeShare 23 = .ok (.iaload, 1) := by decide +kernel
theorem dX13_homeShare_24 : decode cX13_homeShare 24 = .ok (.i2f, 1) := by decide +kernel
theorem dX13_homeShare_25 : decode cX13_homeShare 25 = .ok (.fdiv, 1) := by decide +kernel
theorem dX13_homeShare_26 : decode cX13_homeShare 26 = .ok (.freturn, 1) := by decide +kernel
set_option maxRecDepth 20000 in
theorem ggX13_account_X13_allPlants : GoodIn wsX13_account wsX13_allPlants := goodIn_r _ [8, 9, 10, 11, 7, 12, 1, 60, 61, 62, 63, 64, 65, 66, 67, 68, 69, 70, 71, 72, 73, 74, 75, 76, 77, 78, 79, 80, 81, 82, 83, 84, 85, 86] (by decide +kernel) (by decide +kernel)
set_option maxRecDepth 20000 in
theorem gX13_account_X13_allPlants : GoodIn wsX13_account (wsV RX13 128 RX13 yX13_allPlants wsX13_allPlants) := goodIn_app (goodIn_of _ (by decide +kernel)) ggX13_account_X13_allPlants
set_option maxRecDepth 20000 in
theorem ggX13_account_X13_allFeuds : GoodIn wsX13_account wsX13_allFeuds := goodIn_r _ [16, 17, 18, 19, 7, 20, 21, 22, 23, 24, 25, 26, 27, 28, 1, 29, 30, 31, 9, 10, 11, 12, 32, 33, 34, 35, 36, 37, 38, 39, 60, 61, 62, 63, 64, 65, 66, 67, 68, 69, 70, 71, 72, 73, 74, 75, 76, 77, 78, 79, 80, 81, 82, 83, 84, 85, 86] (by decide +kernel) (by decide +kernel)
set_option maxRecDepth 20000 in
theorem gX13_account_X13_allFeuds : GoodIn wsX13_account (wsV RX13 248 RX13 yX13_allFeuds wsX13_allFeuds) := goodIn_app (goodIn_of _ (by decide +kernel)) ggX13_account_X13_allFeuds
set_option maxRecDepth 20000 in
theorem ggX13_account_X13_atHome : GoodIn wsX13_account wsX13_atHome := goodIn_r _ [43, 1, 44, 45, 46, 7, 47, 60, 61, 62, 63, 64, 65, 66, 67, 68, 69, 70, 71, 72, 73, 74, 75, 76, 77, 78, 79, 80, 81, 82, 83, 84, 85, 86] (by decide +kernel) (by decide +kernel)
set_option maxRecDepth 20000 in
theorem gX13_account_X13_atHome : GoodIn wsX13_account (wsV RX13 287 RX13 yX13_atHome wsX13_atHome) := goodIn_app (goodIn_of _ (by decide +kernel)) ggX13_account_X13_atHome
set_option maxRecDepth 20000 in
theorem ggX13_account_X13_allGreetings : GoodIn wsX13_account wsX13_allGreetings := goodIn_r _ [51, 52, 53, 54, 7, 55, 56, 57, 58, 59, 1, 60, 61, 62, 63, 64, 65, 66, 67, 68, 69, 70, 71, 72, 73, 74, 75, 76, 77, 78, 79, 80, 81, 82, 83, 84, 85, 86] (by decide +kernel) (by decide +kernel)
set_option maxRecDepth 20000 in
theorem gX13_account_X13_allGreetings : GoodIn wsX13_account (wsV RX13 257 RX13 yX13_allGreetings wsX13_allGreetings) := goodIn_app (goodIn_of _ (by decide +kernel)) ggX13_account_X13_allGreetings
theorem dX13_account_0 : decode cX13_account 0 = .ok (.iload_n 1, 1) := by decide +kernel
theorem dX13_account_1 : decode cX13_account 1 = .ok (.tableswitch 159 0 13 #[71, 76, 81, 88, 95, 100, 107, 112, 119, 126, 133, 141, 149, 154], 71) := by decide +kernel
theorem dX13_account_72 : decode cX13_account 72 = .ok (.aload_n 0, 1) := by decide +kernel
theorem dX13_account_73 : decode cX13_account 73 = .ok (.invokevirtual 128, 3) := by decide +kernel
theorem dX13_account_76 : decode cX13_account 76 = .ok (.ireturn, 1) := by decide +kernel
theorem dX13_account_77 : decode cX13_account 77 = .ok (.aload_n 0, 1) := by decide +kernel
theorem dX13_account_78 : decode cX13_account 78 = .ok (.invokevirtual 248, 3) := by decide +kernel
theorem dX13_account_81 : decode cX13_account 81 = .ok (.ireturn, 1) := by decide +kernel
theorem dX13_account_82 : decode cX13_account 82 = .ok (.aload_n 0, 1) := by decide +kernel
theorem dX13_account_83 : decode cX13_account 83 = .ok (.getfield 7, 3) := by decide +kernel
theorem dX13_account_86 : decode cX13_account 86 = .ok (.iconst 0, 1) := by decide +kernel
theorem dX13_account_87 : decode cX13_account 87 = .ok (.iaload, 1) := by decide +kernel
theorem dX13_account_88 : decode cX13_account 88 = .ok (.ireturn, 1) := by decide +kernel
theorem dX13_account_89 : decode cX13_account 89 = .ok (.aload_n 0, 1) := by decide +kernel
theorem dX13_account_90 : decode cX13_account 90 = .ok (.getfield 7, 3) := by decide +kernel
theorem dX13_account_93 : decode cX13_account 93 = .ok (.iconst 1, 1) := by decide +kernel
theorem dX13_account_94 : decode cX13_account 94 = .ok (.iaload, 1) := by decide +kernel
theorem dX13_account_95 : decode cX13_account 95 = .ok (.ireturn, 1) := by decide +kernel
theorem dX13_account_96 : decode cX13_account 96 = .ok (.aload_n 0, 1) := by decide +kernel
theorem dX13_account_97 : decode cX13_account 97 = .ok (.invokevirtual 287, 3) := by decide +kernel
theorem dX13_account_100 : decode cX13_account 100 = .ok (.ireturn, 1) := by decide +kernel
theorem dX13_account_101 : decode cX13_account 101 = .ok (.aload_n 0, 1) := by decide +kernel
theorem dX13_account_102 : decode cX13_account 102 = .ok (.getfield 7, 3) := by decide +kernel
theorem dX13_account_105 : decode cX13_account 105 = .ok (.iconst 2, 1) := by decide +kernel
theorem dX13_account_106 : decode cX13_account 106 = .ok (.iaload, 1) := by decide +kernel
theorem dX13_account_107 : decode cX13_account 107 = .ok (.ireturn, 1) := by decide +kernel
theorem dX13_account_108 : decode cX13_account 108 = .ok (.aload_n 0, 1) := by decide +kernel
theorem dX13_account_109 : decode cX13_account 109 = .ok (.invokevirtual 257, 3) := by decide +kernel
theorem dX13_account_112 : decode cX13_account 112 = .ok (.ireturn, 1) := by decide +kernel
theorem dX13_account_113 : decode cX13_account 113 = .ok (.aload_n 0, 1) := by decide +kernel
theorem dX13_account_114 : decode cX13_account 114 = .ok (.getfield 7, 3) := by decide +kernel
theorem dX13_account_117 : decode cX13_account 117 = .ok (.iconst 3, 1) := by decide +kernel
theorem dX13_account_118 : decode cX13_account 118 = .ok (.iaload, 1) := by decide +kernel
theorem dX13_account_119 : decode cX13_account 119 = .ok (.ireturn, 1) := by decide +kernel
theorem dX13_account_120 : decode cX13_account 120 = .ok (.aload_n 0, 1) := by decide +kernel
theorem dX13_account_121 : decode cX13_account 121 = .ok (.getfield 7, 3) := by decide +kernel
theorem dX13_account_124 : decode cX13_account 124 = .ok (.iconst 4, 1) := by decide +kernel
theorem dX13_account_125 : decode cX13_account 125 = .ok (.iaload, 1) := by decide +kernel
theorem dX13_account_126 : decode cX13_account 126 = .ok (.ireturn, 1) := by decide +kernel
theorem dX13_account_127 : decode cX13_account 127 = .ok (.aload_n 0, 1) := by decide +kernel
theorem dX13_account_128 : decode cX13_account 128 = .ok (.getfield 7, 3) := by decide +kernel
theorem dX13_account_131 : decode cX13_account 131 = .ok (.iconst 5, 1) := by decide +kernel
theorem dX13_account_132 : decode cX13_account 132 = .ok (.iaload, 1) := by decide +kernel
theorem dX13_account_133 : decode cX13_account 133 = .ok (.ireturn, 1) := by decide +kernel
theorem dX13_account_134 : decode cX13_account 134 = .ok (.aload_n 0, 1) := by decide +kernel
theorem dX13_account_135 : decode cX13_account 135 = .ok (.getfield 7, 3) := by decide +kernel
theorem dX13_account_138 : decode cX13_account 138 = .ok (.bipush 6, 2) := by decide +kernel
theorem dX13_account_140 : decode cX13_account 140 = .ok (.iaload, 1) := by decide +kernel
theorem dX13_account_141 : decode cX13_account 141 = .ok (.ireturn, 1) := by decide +kernel
theorem dX13_account_142 : decode cX13_account 142 = .ok (.aload_n 0, 1) := by decide +kernel
theorem dX13_account_143 : decode cX13_account 143 = .ok (.getfield 7, 3) := by decide +kernel
theorem dX13_account_146 : decode cX13_account 146 = .ok (.bipush 7, 2) := by decide +kernel
theorem dX13_account_148 : decode cX13_account 148 = .ok (.iaload, 1) := by decide +kernel
theorem dX13_account_149 : decode cX13_account 149 = .ok (.ireturn, 1) := by decide +kernel
theorem dX13_account_150 : decode cX13_account 150 = .ok (.aload_n 0, 1) := by decide +kernel
theorem dX13_account_151 : decode cX13_account 151 = .ok (.getfield 75, 3) := by decide +kernel
theorem dX13_account_154 : decode cX13_account 154 = .ok (.ireturn, 1) := by decide +kernel
theorem dX13_account_155 : decode cX13_account 155 = .ok (.aload_n 0, 1) := by decide +kernel
theorem dX13_account_156 : decode cX13_account 156 = .ok (.getfield 25, 3) := by decide +kernel
theorem dX13_account_159 : decode cX13_account 159 = .ok (.ireturn, 1) := by decide +kernel
theorem dX13_account_160 : decode cX13_account 160 = .ok (.bipush (-2), 2) := by decide +kernel
theorem dX13_account_162 : decode cX13_account 162 = .ok (.ireturn, 1) := by decide +kernel
set_option maxRecDepth 20000 in
theorem ggX13_append_X13_in : GoodIn wsX13_append wsX13_in := goodIn_r _ [6] (by decide +kernel) (by decide +kernel)
set_option maxRecDepth 20000 in
theorem gX13_append_X13_in : GoodIn wsX13_append (va_wsS RX13 100 yX13_in wsX13_in) := goodIn_app (goodIn_of _ (by decide +kernel)) ggX13_append_X13_in
theorem dX13_append_0 : decode cX13_append 0 = .ok (.iload_n 1, 1) := by decide +kernel
theorem dX13_append_1 : decode cX13_append 1 = .ok (.bipush 32, 2) := by decide +kernel
theorem dX13_append_3 : decode cX13_append 3 = .ok (.bipush 126, 2) := by decide +kernel
theorem dX13_append_5 : decode cX13_append 5 = .ok (.invokestatic 100, 3) := by decide +kernel
theorem dX13_append_8 : decode cX13_append 8 = .ok (.ifCond .eq 12, 3) := by decide +kernel
theorem dX13_append_11 : decode cX13_append 11 = .ok (.aload_n 0, 1) := by decide +kernel
theorem dX13_append_12 : decode cX13_append 12 = .ok (.getfield 75, 3) := by decide +kernel
theorem dX13_append_15 : decode cX13_append 15 = .ok (.bipush 60, 2) := by decide +kernel
theorem dX13_append_17 : decode cX13_append 17 = .ok (.if_icmp .ne 6, 3) := by decide +kernel
theorem dX13_append_20 : decode cX13_append 20 = .ok (.bipush (-2), 2) := by decide +kernel
theorem dX13_append_22 : decode cX13_append 22 = .ok (.ireturn, 1) := by decide +kernel
theorem dX13_append_23 : decode cX13_append 23 = .ok (.aload_n 0, 1) := by decide +kernel
theorem dX13_append_24 : decode cX13_append 24 = .ok (.getfield 66, 3) := by decide +kernel
theorem dX13_append_27 : decode cX13_append 27 = .ok (.aload_n 0, 1) := by decide +kernel
theorem dX13_append_28 : decode cX13_append 28 = .ok (.getfield 75, 3) := by decide +kernel
theorem dX13_append_31 : decode cX13_append 31 = .ok (.iload_n 1, 1) := by decide +kernel
theorem dX13_append_32 : decode cX13_append 32 = .ok (.iastore, 1) := by decide +kernel
theorem dX13_append_33 : decode cX13_append 33 = .ok (.aload_n 0, 1) := by decide +kernel
theorem dX13_append_34 : decode cX13_append 34 = .ok (.dup, 1) := by decide +kernel
theorem dX13_append_35 : decode cX13_append 35 = .ok (.getfield 75, 3) := by decide +kernel
theorem dX13_append_38 : decode cX13_append 38 = .ok (.iconst 1, 1) := by decide +kernel
theorem dX13_append_39 : decode cX13_append 39 = .ok (.iadd, 1) := by decide +kernel
theorem dX13_append_40 : decode cX13_append 40 = .ok (.putfield 75, 3) := by decide +kernel
theorem dX13_append_43 : decode cX13_append 43 = .ok (.aload_n 0, 1) := by decide +kernel
theorem dX13_append_44 : decode cX13_append 44 = .ok (.getfield 75, 3) := by decide +kernel
theorem dX13_append_47 : decode cX13_append 47 = .ok (.ireturn, 1) := by decide +kernel
theorem dX13_mark_0 : decode cX13_mark 0 = .ok (.aload_n 0, 1) := by decide +kernel
theorem dX13_mark_1 : decode cX13_mark 1 = .ok (.getfield 87, 3) := by decide +kernel
theorem dX13_mark_4 : decode cX13_mark 4 = .ok (.ifCond .ne 26, 3) := by decide +kernel
theorem dX13_mark_7 : decode cX13_mark 7 = .ok (.aload_n 0, 1) := by decide +kernel
theorem dX13_mark_8 : decode cX13_mark 8 = .ok (.getfield 81, 3) := by decide +kernel
theorem dX13_mark_11 : decode cX13_mark 11 = .ok (.aload_n 0, 1) := by decide +kernel
theorem dX13_mark_12 : decode cX13_mark 12 = .ok (.getfield 78, 3) := by decide +kernel
theorem dX13_mark_15 : decode cX13_mark 15 = .ok (.if_icmp .ge 15, 3) := by decide +kernel
theorem dX13_mark_18 : decode cX13_mark 18 = .ok (.aload_n 0, 1) := by decide +kernel
theorem dX13_mark_19 : decode cX13_mark 19 = .ok (.getfield 66, 3) := by decide +kernel
theorem dX13_mark_22 : decode cX13_mark 22 = .ok (.aload_n 0, 1) := by decide +kernel
theorem dX13_mark_23 : decode cX13_mark 23 = .ok (.getfield 81, 3) := by decide +kernel
theorem dX13_mark_26 : decode cX13_mark 26 = .ok (.iaload, 1) := by decide +kernel
theorem dX13_mark_27 : decode cX13_mark 27 = .ok (.goto 4, 3) := by decide +kernel
theorem dX13_mark_30 : decode cX13_mark 30 = .ok (.iconst (-1), 1) := by decide +kernel
theorem dX13_mark_31 : decode cX13_mark 31 = .ok (.ireturn, 1) := by decide +kernel
set_option maxRecDepth 20000 in
theorem ggX13_isDigit_X13_mark : GoodIn wsX13_isDigit wsX13_mark := goodIn_r _ [5, 6, 7, 8, 9, 13, 14, 15, 16, 17, 18, 19, 20, 21, 22, 23, 24, 25, 26, 27, 28, 29, 30, 31, 32, 33, 34, 35, 36, 37, 38, 39] (by decide +kernel) (by decide +kernel)
set_option maxRecDepth 20000 in
theorem gX13_isDigit_X13_mark : GoodIn wsX13_isDigit (wsV RX13 290 RX13 yX13_mark wsX13_mark) := goodIn_app (goodIn_of _ (by decide +kernel)) ggX13_isDigit_X13_mark
set_option maxRecDepth 20000 in
theorem ggX13_isDigit_X13_in : GoodIn wsX13_isDigit wsX13_in := goodIn_r _ [12] (by decide +kernel) (by decide +kernel)
set_option maxRecDepth 20000 in
theorem gX13_isDigit_X13_in : GoodIn wsX13_isDigit (va_wsS RX13 100 yX13_in wsX13_in) := goodIn_app (goodIn_of _ (by decide +kernel)) ggX13_isDigit_X13_in
theorem dX13_isDigit_0 : decode cX13_isDigit 0 = .ok (.aload_n 0, 1) := by decide +kernel
theorem dX13_isDigit_1 : decode cX13_isDigit 1 = .ok (.invokevirtual 290, 3) := by decide +kernel
theorem dX13_isDigit_4 : decode cX13_isDigit 4 = .ok (.bipush 48, 2) := by decide +kernel
theorem dX13_isDigit_6 : decode cX13_isDigit 6 = .ok (.bipush 57, 2) := by decide +kernel
theorem dX13_isDigit_8 : decode cX13_isDigit 8 = .ok (.invokestatic 100, 3) := by decide +kernel
theorem dX13_isDigit_11 : decode cX13_isDigit 11 = .ok (.ireturn, 1) := by decide +kernel
set_option maxRecDepth 20000 in
theorem ggX13_behindBlank_X13_mark : GoodIn wsX13_behindBlank wsX13_mark := goodIn_r _ [8, 1, 2, 9, 3, 17, 18, 19, 20, 21, 22, 23, 24, 25, 26, 27, 28, 29, 30, 31, 32, 33, 34, 35, 36, 37, 38, 39, 40, 41, 42, 43] (by decide +kernel) (by decide +kernel)
set_option maxRecDepth 20000 in
theorem gX13_behindBlank_X13_mark : GoodIn wsX13_behindBlank (wsV RX13 290 RX13 yX13_mark wsX13_mark) := goodIn_app (goodIn_of _ (by decide +kernel)) ggX13_behindBlank_X13_mark
set_option maxRecDepth 20000 in
theorem ggX13_behindBlank_X13_isDigit : GoodIn wsX13_behindBlank wsX13_isDigit := goodIn_r _ [13, 4, 5, 6, 7, 8, 1, 2, 9, 3, 14, 15, 16, 17, 18, 19, 20, 21, 22, 23, 24, 25, 26, 27, 28, 29, 30, 31, 32, 33, 34, 35, 36, 37, 38, 39, 40, 41, 42, 43] (by decide +kernel) (by decide +kernel)
set_option maxRecDepth 20000 in
theorem gX13_behindBlank_X13_isDigit : GoodIn wsX13_behindBlank (wsV RX13 293 RX13 yX13_isDigit wsX13_isDigit) := goodIn_app (goodIn_of _ (by decide +kernel)) ggX13_behindBlank_X13_isDigit
theorem dX13_behindBlank_0 : decode cX13_behindBlank 0 = .ok (.aload_n 0, 1) := by decide +kernel
theorem dX13_behindBlank_1 : decode cX13_behindBlank 1 = .ok (.dup, 1) := by decide +kernel
theorem dX13_behindBlank_2 : decode cX13_behindBlank 2 = .ok (.getfield 87, 3) := by decide +kernel
theorem dX13_behindBlank_5 : decode cX13_behindBlank 5 = .ok (.aload_n 0, 1) := by decide +kernel
theorem dX13_behindBlank_6 : decode cX13_behindBlank 6 = .ok (.invokevirtual 290, 3) := by decide +kernel
theorem dX13_behindBlank_9 : decode cX13_behindBlank 9 = .ok (.bipush 32, 2) := by decide +kernel
theorem dX13_behindBlank_11 : decode cX13_behindBlank 11 = .ok (.if_icmp .eq 7, 3) := by decide +kernel
theorem dX13_behindBlank_14 : decode cX13_behindBlank 14 = .ok (.iconst 1, 1) := by decide +kernel
theorem dX13_behindBlank_15 : decode cX13_behindBlank 15 = .ok (.goto 4, 3) := by decide +kernel
theorem dX13_behindBlank_18 : decode cX13_behindBlank 18 = .ok (.iconst 0, 1) := by decide +kernel
theorem dX13_behindBlank_19 : decode cX13_behindBlank 19 = .ok (.ior, 1) := by decide +kernel
theorem dX13_behindBlank_20 : decode cX13_behindBlank 20 = .ok (.putfield 87, 3) := by decide +kernel
theorem dX13_behindBlank_23 : decode cX13_behindBlank 23 = .ok (.aload_n 0, 1) := by decide +kernel
theorem dX13_behindBlank_24 : decode cX13_behindBlank 24 = .ok (.dup, 1) := by decide +kernel
theorem dX13_behindBlank_25 : decode cX13_behindBlank 25 = .ok (.getfield 81, 3) := by decide +kernel
theorem dX13_behindBlank_28 : decode cX13_behindBlank 28 = .ok (.aload_n 0, 1) := by decide +kernel
theorem dX13_behindBlank_29 : decode cX13_behindBlank 29 = .ok (.getfield 87, 3) := by decide +kernel
theorem dX13_behindBlank_32 : decode cX13_behindBlank 32 = .ok (.ifCond .eq 7, 3) := by decide +kernel
theorem dX13_behindBlank_35 : decode cX13_behindBlank 35 = .ok (.iconst 0, 1) := by decide +kernel
theorem dX13_behindBlank_36 : decode cX13_behindBlank 36 = .ok (.goto 4, 3) := by decide +kernel
theorem dX13_behindBlank_39 : decode cX13_behindBlank 39 = .ok (.iconst 1, 1) := by decide +kernel
theorem dX13_behindBlank_40 : decode cX13_behindBlank 40 = .ok (.iadd, 1) := by decide +kernel
theorem dX13_behindBlank_41 : decode cX13_behindBlank 41 = .ok (.putfield 81, 3) := by decide +kernel
theorem dX13_behindBlank_44 : decode cX13_behindBlank 44 = .ok (.aload_n 0, 1) := by decide +kernel
theorem dX13_behindBlank_45 : decode cX13_behindBlank 45 = .ok (.dup, 1) := by decide +kernel
theorem dX13_behindBlank_46 : decode cX13_behindBlank 46 = .ok (.getfield 87, 3) := by decide +kernel
theorem dX13_behindBlank_49 : decode cX13_behindBlank 49 = .ok (.aload_n 0, 1) := by decide +kernel
theorem dX13_behindBlank_50 : decode cX13_behindBlank 50 = .ok (.invokevirtual 293, 3) := by decide +kernel
theorem dX13_behindBlank_53 : decode cX13_behindBlank 53 = .ok (.ifCond .ne 7, 3) := by decide +kernel
theorem dX13_behindBlank_56 : decode cX13_behindBlank 56 = .ok (.iconst 1, 1) := by decide +kernel
theorem dX13_behindBlank_57 : decode cX13_behindBlank 57 = .ok (.goto 4, 3) := by decide +kernel
theorem dX13_behindBlank_60 : decode cX13_behindBlank 60 = .ok (.iconst 0, 1) := by decide +kernel
theorem dX13_behindBlank_61 : decode cX13_behindBlank 61 = .ok (.ior, 1) := by decide +kernel
theorem dX13_behindBlank_62 : decode cX13_behindBlank 62 = .ok (.putfield 87, 3) := by decide +kernel
theorem dX13_behindBlank_65 : decode cX13_behindBlank 65 = .ok (.iconst 0, 1) := by decide +kernel
theorem dX13_behindBlank_66 : decode cX13_behindBlank 66 = .ok (.istore_n 2, 1) := by decide +kernel
theorem dX13_behindBlank_67 : decode cX13_behindBlank 67 = .ok (.iconst 0, 1) := by decide +kernel
theorem dX13_behindBlank_68 : decode cX13_behindBlank 68 = .ok (.istore_n 3, 1) := by decide +kernel
theorem dX13_behindBlank_69 : decode cX13_behindBlank 69 = .ok (.iload_n 3, 1) := by decide +kernel
theorem dX13_behindBlank_70 : decode cX13_behindBlank 70 = .ok (.iload_n 1, 1) := by decide +kernel
theorem dX13_behindBlank_71 : decode cX13_behindBlank 71 = .ok (.if_icmp .ge 44, 3) := by decide +kernel
theorem dX13_behindBlank_74 : decode cX13_behindBlank 74 = .ok (.aload_n 0, 1) := by decide +kernel
theorem dX13_behindBlank_75 : decode cX13_behindBlank 75 = .ok (.invokevirtual 293, 3) := by decide +kernel
theorem dX13_behindBlank_78 : decode cX13_behindBlank 78 = .ok (.ifCond .eq 37, 3) := by decide +kernel
theorem dX13_behindBlank_81 : decode cX13_behindBlank 81 = .ok (.bipush 10, 2) := by decide +kernel
theorem dX13_behindBlank_83 : decode cX13_behindBlank 83 = .ok (.iload_n 2, 1) := by decide +kernel
theorem dX13_behindBlank_84 : decode cX13_behindBlank 84 = .ok (.imul, 1) := by decide +kernel
theorem dX13_behindBlank_85 : decode cX13_behindBlank 85 = .ok (.aload_n 0, 1) := by decide +kernel
theorem dX13_behindBlank_86 : decode cX13_behindBlank 86 = .ok (.getfield 66, 3) := by decide +kernel
theorem dX13_behindBlank_89 : decode cX13_behindBlank 89 = .ok (.aload_n 0, 1) := by decide +kernel
theorem dX13_behindBlank_90 : decode cX13_behindBlank 90 = .ok (.getfield 81, 3) := by decide +kernel
theorem dX13_behindBlank_93 : decode cX13_behindBlank 93 = .ok (.iaload, 1) := by decide +kernel
theorem dX13_behindBlank_94 : decode cX13_behindBlank 94 = .ok (.iadd, 1) := by decide +kernel
theorem dX13_behindBlank_95 : decode cX13_behindBlank 95 = .ok (.bipush 48, 2) := by decide +kernel
theorem dX13_behindBlank_97 : decode cX13_behindBlank 97 = .ok (.isub, 1) := by decide +kernel
theorem dX13_behindBlank_98 : decode cX13_behindBlank 98 = .ok (.istore_n 2, 1) := by decide +kernel
theorem dX13_behindBlank_99 : decode cX13_behindBlank 99 = .ok (.aload_n 0, 1) := by decide +kernel
theorem dX13_behindBlank_100 : decode cX13_behindBlank 100 = .ok (.dup, 1) := by decide +kernel
theorem dX13_behindBlank_101 : decode cX13_behindBlank 101 = .ok (.getfield 81, 3) := by decide +kernel
theorem dX13_behindBlank_104 : decode cX13_behindBlank 104 = .ok (.iconst 1, 1) := by decide +kernel
theorem dX13_behindBlank_105 : decode cX13_behindBlank 105 = .ok (.iadd, 1) := by decide +kernel
theorem dX13_behindBlank_106 : decode cX13_behindBlank 106 = .ok (.putfield 81, 3) := by decide +kernel
theorem dX13_behindBlank_109 : decode cX13_behindBlank 109 = .ok (.iinc 3 1, 3) := by decide +kernel
theorem dX13_behindBlank_112 : decode cX13_behindBlank 112 = .ok (.goto (-43), 3) := by decide +kernel
theorem dX13_behindBlank_115 : decode cX13_behindBlank 115 = .ok (.iload_n 2, 1) := by decide +kernel
theorem dX13_behindBlank_116 : decode cX13_behindBlank 116 = .ok (.ireturn, 1) := by decide +kernel
theorem dX13_inWord_0 : decode cX13_inWord 0 = .ok (.iload_n 0, 1) := by decide +kernel
theorem dX13_inWord_1 : decode cX13_inWord 1 = .ok (.tableswitch 47 0 4 #[35, 37, 39, 41, 44], 35) := by decide +kernel
theorem dX13_inWord_36 : decode cX13_inWord 36 = .ok (.iload_n 1, 1) := by decide +kernel
theorem dX13_inWord_37 : decode cX13_inWord 37 = .ok (.ireturn, 1) := by decide +kernel
theorem dX13_inWord_38 : decode cX13_inWord 38 = .ok (.iload_n 2, 1) := by decide +kernel
theorem dX13_inWord_39 : decode cX13_inWord 39 = .ok (.ireturn, 1) := by decide +kernel
theorem dX13_inWord_40 : decode cX13_inWord 40 = .ok (.iload_n 3, 1) := by decide +kernel
theorem dX13_inWord_41 : decode cX13_inWord 41 = .ok (.ireturn, 1) := by decide +kernel
theorem dX13_inWord_42 : decode cX13_inWord 42 = .ok (.iload 4, 2) := by decide +kernel
theorem dX13_inWord_44 : decode cX13_inWord 44 = .ok (.ireturn, 1) := by decide +kernel
theorem dX13_inWord_45 : decode cX13_inWord 45 = .ok (.iload 5, 2) := by decide +kernel
theorem dX13_inWord_47 : decode cX13_inWord 47 = .ok (.ireturn, 1) := by decide +kernel
theorem dX13_inWord_48 : decode cX13_inWord 48 = .ok (.iconst 0, 1) := by decide +kernel
theorem dX13_inWord_49 : decode cX13_inWord 49 = .ok (.ireturn, 1) := by decide +kernel
set_option maxRecDepth 20000 in
theorem ggX13_letter_X13_inWord : GoodIn wsX13_letter wsX13_inWord := goodIn_r _ [4] (by decide +kernel) (by decide +kernel)
set_option maxRecDepth 20000 in
theorem gX13_letter_X13_inWord : GoodIn wsX13_letter (va_wsS RX13 297 yX13_inWord wsX13_inWord) := goodIn_app (goodIn_of _ (by decide +kernel)) ggX13_letter_X13_inWord
theorem dX13_letter_0 : decode cX13_letter 0 = .ok (.iload_n 0, 1) := by decide +kernel
theorem dX13_letter_1 : decode cX13_letter 1 = .ok (.tableswitch 142 0 6 #[43, 58, 72, 86, 101, 115, 128], 43) := by decide +kernel
theorem dX13_letter_44 : decode cX13_letter 44 = .ok (.iload_n 1, 1) := by decide +kernel
theorem dX13_letter_45 : decode cX13_letter 45 = .ok (.bipush 112, 2) := by decide +kernel
theorem dX13_letter_47 : decode cX13_letter 47 = .ok (.bipush 108, 2) := by decide +kernel
theorem dX13_letter_49 : decode cX13_letter 49 = .ok (.bipush 97, 2) := by decide +kernel
theorem dX13_letter_51 : decode cX13_letter 51 = .ok (.bipush 110, 2) := by decide +kernel
theorem dX13_letter_53 : decode cX13_letter 53 = .ok (.bipush 116, 2) := by decide +kernel
theorem dX13_letter_55 : decode cX13_letter 55 = .ok (.invokestatic 297, 3) := by decide +kernel
theorem dX13_letter_58 : decode cX13_letter 58 = .ok (.ireturn, 1) := by decide +kernel
theorem dX13_letter_59 : decode cX13_letter 59 = .ok (.iload_n 1, 1) := by decide +kernel
theorem dX13_letter_60 : decode cX13_letter 60 = .ok (.bipush 98, 2) := by decide +kernel
theorem dX13_letter_62 : decode cX13_letter 62 = .ok (.bipush 101, 2) := by decide +kernel
theorem dX13_letter_64 : decode cX13_letter 64 = .ok (.bipush 97, 2) := by decide +kernel
theorem dX13_letter_66 : decode cX13_letter 66 = .ok (.bipush 114, 2) := by decide +kernel
theorem dX13_letter_68 : decode cX13_letter 68 = .ok (.iconst 0, 1) := by decide +kernel
theorem dX13_letter_69 : decode cX13_letter 69 = .ok (.invokestatic 297, 3) := by decide +kernel
theorem dX13_letter_72 : decode cX13_letter 72 = .ok (.ireturn, 1) := by decide +kernel
theorem dX13_letter_73 : decode cX13_letter 73 = .ok (.iload_n 1, 1) := by decide +kernel
theorem dX13_letter_74 : decode cX13_letter 74 = .ok (.bipush 104, 2) := by decide +kernel
theorem dX13_letter_76 : decode cX13_letter 76 = .ok (.bipush 97, 2) := by decide +kernel
theorem dX13_letter_78 : decode cX13_letter 78 = .ok (.bipush 110, 2) := by decide +kernel
theorem dX13_letter_80 : decode cX13_letter 80 = .ok (.bipush 103, 2) := by decide +kernel
theorem dX13_letter_82 : decode cX13_letter 82 = .ok (.iconst 0, 1) := by decide +kernel
theorem dX13_letter_83 : decode cX13_letter 83 = .ok (.invokestatic 297, 3) := by decide +kernel
theorem dX13_letter_86 : decode cX13_letter 86 = .ok (.ireturn, 1) := by decide +kernel
theorem dX13_letter_87 : decode cX13_letter 87 = .ok (.iload_n 1, 1) := by decide +kernel
theorem dX13_letter_88 : decode cX13_letter 88 = .ok (.bipush 103, 2) := by decide +kernel
theorem dX13_letter_90 : decode cX13_letter 90 = .ok (.bipush 114, 2) := by decide +kernel
theorem dX13_letter_92 : decode cX13_letter 92 = .ok (.bipush 101, 2) := by decide +kernel
theorem dX13_letter_94 : decode cX13_letter 94 = .ok (.bipush 101, 2) := by decide +kernel
theorem dX13_letter_96 : decode cX13_letter 96 = .ok (.bipush 116, 2) := by decide +kernel
theorem dX13_letter_98 : decode cX13_letter 98 = .ok (.invokestatic 297, 3) := by decide +kernel
theorem dX13_letter_101 : decode cX13_letter 101 = .ok (.ireturn, 1) := by decide +kernel
theorem dX13_letter_102 : decode cX13_letter 102 = .ok (.iload_n 1, 1) := by decide +kernel
theorem dX13_letter_103 : decode cX13_letter 103 = .ok (.bipush 103, 2) := by decide +kernel
theorem dX13_letter_105 : decode cX13_letter 105 = .ok (.bipush 105, 2) := by decide +kernel
theorem dX13_letter_107 : decode cX13_letter 107 = .ok (.bipush 118, 2) := by decide +kernel
theorem dX13_letter_109 : decode cX13_letter 109 = .ok (.bipush 101, 2) := by decide +kernel
theorem dX13_letter_111 : decode cX13_letter 111 = .ok (.iconst 0, 1) := by decide +kernel
theorem dX13_letter_112 : decode cX13_letter 112 = .ok (.invokestatic 297, 3) := by decide +kernel
theorem dX13_letter_115 : decode cX13_letter 115 = .ok (.ireturn, 1) := by decide +kernel
theorem dX13_letter_116 : decode cX13_letter 116 = .ok (.iload_n 1, 1) := by decide +kernel
theorem dX13_letter_117 : decode cX13_letter 117 = .ok (.bipush 99, 2) := by decide +kernel
theorem dX13_letter_119 : decode cX13_letter 119 = .ok (.bipush 97, 2) := by decide +kernel
theorem dX13_letter_121 : decode cX13_letter 121 = .ok (.bipush 116, 2) := by decide +kernel
theorem dX13_letter_123 : decode cX13_letter 123 = .ok (.iconst 0, 1) := by decide +kernel
theorem dX13_letter_124 : decode cX13_letter 124 = .ok (.iconst 0, 1) := by decide +kernel
theorem dX13_letter_125 : decode cX13_letter 125 = .ok (.invokestatic 297, 3) := by decide +kernel
theorem dX13_letter_128 : decode cX13_letter 128 = .ok (.ireturn, 1) := by decide +kernel
theorem dX13_letter_129 : decode cX13_letter 129 = .ok (.iload_n 1, 1) := by decide +kernel
theorem dX13_letter_130 : decode cX13_letter 130 = .ok (.bipush 115, 2) := by decide +kernel
theorem dX13_letter_132 : decode cX13_letter 132 = .ok (.bipush 119, 2) := by decide +kernel
theorem dX13_letter_134 : decode cX13_letter 134 = .ok (.bipush 97, 2) := by decide +kernel
theorem dX13_letter_136 : decode cX13_letter 136 = .ok (.bipush 112, 2) := by decide +kernel
theorem dX13_letter_138 : decode cX13_letter 138 = .ok (.iconst 0, 1) := by decide +kernel
theorem dX13_letter_139 : decode cX13_letter 139 = .ok (.invokestatic 297, 3) := by decide +kernel
theorem dX13_letter_142 : decode cX13_letter 142 = .ok (.ireturn, 1) := by decide +kernel
theorem dX13_letter_143 : decode cX13_letter 143 = .ok (.iload_n 1, 1) := by decide +kernel
theorem dX13_letter_144 : decode cX13_letter 144 = .ok (.bipush 100, 2) := by decide +kernel
theorem dX13_letter_146 : decode cX13_letter 146 = .ok (.bipush 97, 2) := by decide +kernel
theorem dX13_letter_148 : decode cX13_letter 148 = .ok (.bipush 121, 2) := by decide +kernel
theorem dX13_letter_150 : decode cX13_letter 150 = .ok (.iconst 0, 1) := by decide +kernel
theorem dX13_letter_151 : decode cX13_letter 151 = .ok (.iconst 0, 1) := by decide +kernel
theorem dX13_letter_152 : decode cX13_letter 152 = .ok (.invokestatic 297, 3) := by decide +kernel
theorem dX13_letter_155 : decode cX13_letter 155 = .ok (.ireturn, 1) := by decide +kernel
set_option maxRecDepth 20000 in
theorem ggX13_kindHere_X13_letter : GoodIn wsX13_kindHere wsX13_letter := goodIn_r _ [8, 9, 10, 7, 11] (by decide +kernel) (by decide +kernel)
set_option maxRecDepth 20000 in
theorem gX13_kindHere_X13_letter : GoodIn wsX13_kindHere (va_wsS RX13 301 yX13_letter wsX13_letter) := goodIn_app (goodIn_of _ (by decide +kernel)) ggX13_kindHere_X13_letter
theorem dX13_kindHere_0 : decode cX13_kindHere 0 = .ok (.iconst 0, 1) := by decide +kernel
theorem dX13_kindHere_1 : decode cX13_kindHere 1 = .ok (.istore_n 1, 1) := by decide +kernel
theorem dX13_kindHere_2 : decode cX13_kindHere 2 = .ok (.iconst 0, 1) := by decide +kernel
theorem dX13_kindHere_3 : decode cX13_kindHere 3 = .ok (.istore_n 2, 1) := by decide +kernel
theorem dX13_kindHere_4 : decode cX13_kindHere 4 = .ok (.iload_n 2, 1) := by decide +kernel
theorem dX13_kindHere_5 : decode cX13_kindHere 5 = .ok (.bipush 8, 2) := by decide +kernel
theorem dX13_kindHere_7 : decode cX13_kindHere 7 = .ok (.if_icmp .ge 88, 3) := by decide +kernel
theorem dX13_kindHere_10 : decode cX13_kindHere 10 = .ok (.iconst 0, 1) := by decide +kernel
theorem dX13_kindHere_11 : decode cX13_kindHere 11 = .ok (.istore_n 3, 1) := by decide +kernel
theorem dX13_kindHere_12 : decode cX13_kindHere 12 = .ok (.iload_n 2, 1) := by decide +kernel
theorem dX13_kindHere_13 : decode cX13_kindHere 13 = .ok (.iload_n 3, 1) := by decide +kernel
theorem dX13_kindHere_14 : decode cX13_kindHere 14 = .ok (.invokestatic 301, 3) := by decide +kernel
theorem dX13_kindHere_17 : decode cX13_kindHere 17 = .ok (.ifCond .le 41, 3) := by decide +kernel
theorem dX13_kindHere_20 : decode cX13_kindHere 20 = .ok (.aload_n 0, 1) := by decide +kernel
theorem dX13_kindHere_21 : decode cX13_kindHere 21 = .ok (.getfield 81, 3) := by decide +kernel
theorem dX13_kindHere_24 : decode cX13_kindHere 24 = .ok (.iload_n 3, 1) := by decide +kernel
theorem dX13_kindHere_25 : decode cX13_kindHere 25 = .ok (.iadd, 1) := by decide +kernel
theorem dX13_kindHere_26 : decode cX13_kindHere 26 = .ok (.aload_n 0, 1) := by decide +kernel
theorem dX13_kindHere_27 : decode cX13_kindHere 27 = .ok (.getfield 78, 3) := by decide +kernel
theorem dX13_kindHere_30 : decode cX13_kindHere 30 = .ok (.if_icmp .ge 28, 3) := by decide +kernel
theorem dX13_kindHere_33 : decode cX13_kindHere 33 = .ok (.aload_n 0, 1) := by decide +kernel
theorem dX13_kindHere_34 : decode cX13_kindHere 34 = .ok (.getfield 66, 3) := by decide +kernel
theorem dX13_kindHere_37 : decode cX13_kindHere 37 = .ok (.aload_n 0, 1) := by decide +kernel
theorem dX13_kindHere_38 : decode cX13_kindHere 38 = .ok (.getfield 81, 3) := by decide +kernel
theorem dX13_kindHere_41 : decode cX13_kindHere 41 = .ok (.iload_n 3, 1) := by decide +kernel
theorem dX13_kindHere_42 : decode cX13_kindHere 42 = .ok (.iadd, 1) := by decide +kernel
theorem dX13_kindHere_43 : decode cX13_kindHere 43 = .ok (.iaload, 1) := by decide +kernel
theorem dX13_kindHere_44 : decode cX13_kindHere 44 = .ok (.iload_n 2, 1) := by decide +kernel
theorem dX13_kindHere_45 : decode cX13_kindHere 45 = .ok (.iload_n 3, 1) := by decide +kernel
theorem dX13_kindHere_46 : decode cX13_kindHere 46 = .ok (.invokestatic 301, 3) := by decide +kernel
theorem dX13_kindHere_49 : decode cX13_kindHere 49 = .ok (.if_icmp .ne 9, 3) := by decide +kernel
theorem dX13_kindHere_52 : decode cX13_kindHere 52 = .ok (.iinc 3 1, 3) := by decide +kernel
theorem dX13_kindHere_55 : decode cX13_kindHere 55 = .ok (.goto (-43), 3) := by decide +kernel
theorem dX13_kindHere_58 : decode cX13_kindHere 58 = .ok (.iload_n 2, 1) := by decide +kernel
theorem dX13_kindHere_59 : decode cX13_kindHere 59 = .ok (.iload_n 3, 1) := by decide +kernel
theorem dX13_kindHere_60 : decode cX13_kindHere 60 = .ok (.invokestatic 301, 3) := by decide +kernel
theorem dX13_kindHere_63 : decode cX13_kindHere 63 = .ok (.ifCond .ne 15, 3) := by decide +kernel
theorem dX13_kindHere_66 : decode cX13_kindHere 66 = .ok (.aload_n 0, 1) := by decide +kernel
theorem dX13_kindHere_67 : decode cX13_kindHere 67 = .ok (.dup, 1) := by decide +kernel
theorem dX13_kindHere_68 : decode cX13_kindHere 68 = .ok (.getfield 81, 3) := by decide +kernel
theorem dX13_kindHere_71 : decode cX13_kindHere 71 = .ok (.iload_n 3, 1) := by decide +kernel
theorem dX13_kindHere_72 : decode cX13_kindHere 72 = .ok (.iadd, 1) := by decide +kernel
theorem dX13_kindHere_73 : decode cX13_kindHere 73 = .ok (.putfield 81, 3) := by decide +kernel
theorem dX13_kindHere_76 : decode cX13_kindHere 76 = .ok (.iload_n 2, 1) := by decide +kernel
theorem dX13_kindHere_77 : decode cX13_kindHere 77 = .ok (.ireturn, 1) := by decide +kernel
theorem dX13_kindHere_78 : decode cX13_kindHere 78 = .ok (.iload_n 3, 1) := by decide +kernel
theorem dX13_kindHere_79 : decode cX13_kindHere 79 = .ok (.iload_n 1, 1) := by decide +kernel
theorem dX13_kindHere_80 : decode cX13_kindHere 80 = .ok (.if_icmp .le 7, 3) := by decide +kernel
theorem dX13_kindHere_83 : decode cX13_kindHere 83 = .ok (.iload_n 3, 1) := by decide +kernel
theorem dX13_kindHere_84 : decode cX13_kindHere 84 = .ok (.goto 4, 3) := by decide +kernel
theorem dX13_kindHere_87 : decode cX13_kindHere 87 = .ok (.iload_n 1, 1) := by decide +kernel
theorem dX13_kindHere_88 : decode cX13_kindHere 88 = .ok (.istore_n 1, 1) := by decide +kernel
theorem dX13_kindHere_89 : decode cX13_kindHere 89 = .ok (.iinc 2 1, 3) := by decide +kernel
theorem dX13_kindHere_92 : decode cX13_kindHere 92 = .ok (.goto (-88), 3) := by decide +kernel
theorem dX13_kindHere_95 : decode cX13_kindHere 95 = .ok (.aload_n 0, 1) := by decide +kernel
theorem dX13_kindHere_96 : decode cX13_kindHere 96 = .ok (.dup, 1) := by decide +kernel
theorem dX13_kindHere_97 : decode cX13_kindHere 97 = .ok (.getfield 81, 3) := by decide +kernel
theorem dX13_kindHere_100 : decode cX13_kindHere 100 = .ok (.iload_n 1, 1) := by decide +kernel
theorem dX13_kindHere_101 : decode cX13_kindHere 101 = .ok (.iadd, 1) := by decide +kernel
theorem dX13_kindHere_102 : decode cX13_kindHere 102 = .ok (.putfield 81, 3) := by decide +kernel
theorem dX13_kindHere_105 : decode cX13_kindHere 105 = .ok (.aload_n 0, 1) := by decide +kernel
theorem dX13_kindHere_106 : decode cX13_kindHere 106 = .ok (.iconst 1, 1) := by decide +kernel
theorem dX13_kindHere_107 : decode cX13_kindHere 107 = .ok (.putfield 87, 3) := by decide +kernel
theorem dX13_kindHere_110 : decode cX13_kindHere 110 = .ok (.iconst 0, 1) := by decide +kernel
theorem dX13_kindHere_111 : decode cX13_kindHere 111 = .ok (.ireturn, 1) := by decide +kernel
set_option maxRecDepth 20000 in
theorem ggX13_command_X13_kindHere : GoodIn wsX13_command wsX13_kindHere := goodIn_r _ [9, 10, 11, 12, 1, 13, 14, 8, 15, 16, 17, 18, 34, 35, 36, 37, 38, 39, 40, 41, 42, 43, 44, 45, 46, 47, 48, 49, 50, 51, 52, 53, 54, 55, 56, 57, 58, 59, 60] (by decide +kernel) (by decide +kernel)
set_option maxRecDepth 20000 in
theorem gX13_command_X13_kindHere : GoodIn wsX13_command (wsV RX13 304 RX13 yX13_kindHere wsX13_kindHere) := goodIn_app (goodIn_of _ (by decide +kernel)) ggX13_command_X13_kindHere
set_option maxRecDepth 20000 in
theorem ggX13_command_X13_behindBlank : GoodIn wsX13_command wsX13_behindBlank := goodIn_r _ [22, 1, 10, 12, 23, 24, 25, 8, 26, 11, 27, 28, 29, 30, 31, 32, 33, 34, 35, 36, 37, 38, 39, 40, 41, 42, 43, 44, 45, 46, 47, 48, 49, 50, 51, 52, 53, 54, 55, 56, 57, 58, 59, 60] (by decide +kernel) (by decide +kernel)
set_option maxRecDepth 20000 in
theorem gX13_command_X13_behindBlank : GoodIn wsX13_command (wsV RX13 307 RX13 yX13_behindBlank wsX13_behindBlank) := goodIn_app (goodIn_of _ (by decide +kernel)) ggX13_command_X13_behindBlank
theorem dX13_command_0 : decode cX13_command 0 = .ok (.aload_n 0, 1) := by decide +kernel
theorem dX13_command_1 : decode cX13_command 1 = .ok (.invokevirtual 304, 3) := by decide +kernel
theorem dX13_command_4 : decode cX13_command 4 = .ok (.istore_n 1, 1) := by decide +kernel
theorem dX13_command_5 : decode cX13_command 5 = .ok (.iload_n 1, 1) := by decide +kernel
theorem dX13_command_6 : decode cX13_command 6 = .ok (.bipush 7, 2) := by decide +kernel
theorem dX13_command_8 : decode cX13_command 8 = .ok (.if_icmp .ge 11, 3) := by decide +kernel
theorem dX13_command_11 : decode cX13_command 11 = .ok (.aload_n 0, 1) := by decide +kernel
theorem dX13_command_12 : decode cX13_command 12 = .ok (.iconst 2, 1) := by decide +kernel
theorem dX13_command_13 : decode cX13_command 13 = .ok (.invokevirtual 307, 3) := by decide +kernel
theorem dX13_command_16 : decode cX13_command 16 = .ok (.goto 4, 3) := by decide +kernel
theorem dX13_command_19 : decode cX13_command 19 = .ok (.iconst 0, 1) := by decide +kernel
theorem dX13_command_20 : decode cX13_command 20 = .ok (.istore_n 2, 1) := by decide +kernel
theorem dX13_command_21 : decode cX13_command 21 = .ok (.iconst 0, 1) := by decide +kernel
theorem dX13_command_22 : decode cX13_command 22 = .ok (.istore_n 3, 1) := by decide +kernel
theorem dX13_command_23 : decode cX13_command 23 = .ok (.iconst 0, 1) := by decide +kernel
theorem dX13_command_24 : decode cX13_command 24 = .ok (.istore 4, 2) := by decide +kernel
theorem dX13_command_26 : decode cX13_command 26 = .ok (.iload_n 1, 1) := by decide +kernel
theorem dX13_command_27 : decode cX13_command 27 = .ok (.iconst 2, 1) := by decide +kernel
theorem dX13_command_28 : decode cX13_command 28 = .ok (.if_icmp .ge 9, 3) := by decide +kernel
theorem dX13_command_31 : decode cX13_command 31 = .ok (.aload_n 0, 1) := by decide +kernel
theorem dX13_command_32 : decode cX13_command 32 = .ok (.iconst 1, 1) := by decide +kernel
theorem dX13_command_33 : decode cX13_command 33 = .ok (.invokevirtual 307, 3) := by decide +kernel
theorem dX13_command_36 : decode cX13_command 36 = .ok (.istore_n 3, 1) := by decide +kernel
theorem dX13_command_37 : decode cX13_command 37 = .ok (.iload_n 1, 1) := by decide +kernel
theorem dX13_command_38 : decode cX13_command 38 = .ok (.iconst 2, 1) := by decide +kernel
theorem dX13_command_39 : decode cX13_command 39 = .ok (.if_icmp .eq 19, 3) := by decide +kernel
theorem dX13_command_42 : decode cX13_command 42 = .ok (.iload_n 1, 1) := by decide +kernel
theorem dX13_command_43 : decode cX13_command 43 = .ok (.iconst 3, 1) := by decide +kernel
theorem dX13_command_44 : decode cX13_command 44 = .ok (.if_icmp .eq 14, 3) := by decide +kernel
theorem dX13_command_47 : decode cX13_command 47 = .ok (.iload_n 1, 1) := by decide +kernel
theorem dX13_command_48 : decode cX13_command 48 = .ok (.iconst 4, 1) := by decide +kernel
theorem dX13_command_49 : decode cX13_command 49 = .ok (.if_icmp .eq 9, 3) := by decide +kernel
theorem dX13_command_52 : decode cX13_command 52 = .ok (.iload_n 1, 1) := by decide +kernel
theorem dX13_command_53 : decode cX13_command 53 = .ok (.bipush 6, 2) := by decide +kernel
theorem dX13_command_55 : decode cX13_command 55 = .ok (.if_icmp .ne 9, 3) := by decide +kernel
theorem dX13_command_58 : decode cX13_command 58 = .ok (.aload_n 0, 1) := by decide +kernel
theorem dX13_command_59 : decode cX13_command 59 = .ok (.iconst 2, 1) := by decide +kernel
theorem dX13_command_60 : decode cX13_command 60 = .ok (.invokevirtual 307, 3) := by decide +kernel
theorem dX13_command_63 : decode cX13_command 63 = .ok (.istore_n 3, 1) := by decide +kernel
theorem dX13_command_64 : decode cX13_command 64 = .ok (.iload_n 1, 1) := by decide +kernel
theorem dX13_command_65 : decode cX13_command 65 = .ok (.iconst 2, 1) := by decide +kernel
theorem dX13_command_66 : decode cX13_command 66 = .ok (.if_icmp .eq 8, 3) := by decide +kernel
theorem dX13_command_69 : decode cX13_command 69 = .ok (.iload_n 1, 1) := by decide +kernel
theorem dX13_command_70 : decode cX13_command 70 = .ok (.iconst 4, 1) := by decide +kernel
theorem dX13_command_71 : decode cX13_command 71 = .ok (.if_icmp .ne 10, 3) := by decide +kernel
theorem dX13_command_74 : decode cX13_command 74 = .ok (.aload_n 0, 1) := by decide +kernel
theorem dX13_command_75 : decode cX13_command 75 = .ok (.iconst 1, 1) := by decide +kernel
theorem dX13_command_76 : decode cX13_command 76 = .ok (.invokevirtual 307, 3) := by decide +kernel
theorem dX13_command_79 : decode cX13_command 79 = .ok (.istore 4, 2) := by decide +kernel
theorem dX13_command_81 : decode cX13_command 81 = .ok (.aload_n 0, 1) := by decide +kernel
theorem dX13_command_82 : decode cX13_command 82 = .ok (.getfield 87, 3) := by decide +kernel
theorem dX13_command_85 : decode cX13_command 85 = .ok (.ifCond .eq 4, 3) := by decide +kernel
theorem dX13_command_88 : decode cX13_command 88 = .ok (.return_, 1) := by decide +kernel
theorem dX13_command_89 : decode cX13_command 89 = .ok (.aload_n 0, 1) := by decide +kernel
theorem dX13_command_90 : decode cX13_command 90 = .ok (.getfield 69, 3) := by decide +kernel
theorem dX13_command_93 : decode cX13_command 93 = .ok (.aload_n 0, 1) := by decide +kernel
theorem dX13_command_94 : decode cX13_command 94 = .ok (.getfield 84, 3) := by decide +kernel
theorem dX13_command_97 : decode cX13_command 97 = .ok (.iload_n 1, 1) := by decide +kernel
theorem dX13_command_98 : decode cX13_command 98 = .ok (.iastore, 1) := by decide +kernel
theorem dX13_command_99 : decode cX13_command 99 = .ok (.aload_n 0, 1) := by decide +kernel
theorem dX13_command_100 : decode cX13_command 100 = .ok (.getfield 72, 3) := by decide +kernel
theorem dX13_command_103 : decode cX13_command 103 = .ok (.iconst 3, 1) := by decide +kernel
theorem dX13_command_104 : decode cX13_command 104 = .ok (.aload_n 0, 1) := by decide +kernel
theorem dX13_command_105 : decode cX13_command 105 = .ok (.getfield 84, 3) := by decide +kernel
theorem dX13_command_108 : decode cX13_command 108 = .ok (.imul, 1) := by decide +kernel
theorem dX13_command_109 : decode cX13_command 109 = .ok (.iload_n 2, 1) := by decide +kernel
theorem dX13_command_110 : decode cX13_command 110 = .ok (.iastore, 1) := by decide +kernel
theorem dX13_command_111 : decode cX13_command 111 = .ok (.aload_n 0, 1) := by decide +kernel
theorem dX13_command_112 : decode cX13_command 112 = .ok (.getfield 72, 3) := by decide +kernel
theorem dX13_command_115 : decode cX13_command 115 = .ok (.iconst 3, 1) := by decide +kernel
theorem dX13_command_116 : decode cX13_command 116 = .ok (.aload_n 0, 1) := by decide +kernel
theorem dX13_command_117 : decode cX13_command 117 = .ok (.getfield 84, 3) := by decide +kernel
theorem dX13_command_120 : decode cX13_command 120 = .ok (.imul, 1) := by decide +kernel
theorem dX13_command_121 : decode cX13_command 121 = .ok (.iconst 1, 1) := by decide +kernel
theorem dX13_command_122 : decode cX13_command 122 = .ok (.iadd, 1) := by decide +kernel
theorem dX13_command_123 : decode cX13_command 123 = .ok (.iload_n 3, 1) := by decide +kernel
theorem dX13_command_124 : decode cX13_command 124 = .ok (.iastore, 1) := by decide +kernel
theorem dX13_command_125 : decode cX13_command 125 = .ok (.aload_n 0, 1) := by decide +kernel
theorem dX13_command_126 : decode cX13_command 126 = .ok (.getfield 72, 3) := by decide +kernel
theorem dX13_command_129 : decode cX13_command 129 = .ok (.iconst 3, 1) := by decide +kernel
theorem dX13_command_130 : decode cX13_command 130 = .ok (.aload_n 0, 1) := by decide +kernel
theorem dX13_command_131 : decode cX13_command 131 = .ok (.getfield 84, 3) := by decide +kernel
theorem dX13_command_134 : decode cX13_command 134 = .ok (.imul, 1) := by decide +kernel
theorem dX13_command_135 : decode cX13_command 135 = .ok (.iconst 2, 1) := by decide +kernel
theorem dX13_command_136 : decode cX13_command 136 = .ok (.iadd, 1) := by decide +kernel
theorem dX13_command_137 : decode cX13_command 137 = .ok (.iload 4, 2) := by decide +kernel
theorem dX13_command_139 : decode cX13_command 139 = .ok (.iastore, 1) := by decide +kernel
theorem dX13_command_140 : decode cX13_command 140 = .ok (.aload_n 0, 1) := by decide +kernel
theorem dX13_command_141 : decode cX13_command 141 = .ok (.dup, 1) := by decide +kernel
theorem dX13_command_142 : decode cX13_command 142 = .ok (.getfield 84, 3) := by decide +kernel
theorem dX13_command_145 : decode cX13_command 145 = .ok (.iconst 1, 1) := by decide +kernel
theorem dX13_command_146 : decode cX13_command 146 = .ok (.iadd, 1) := by decide +kernel
theorem dX13_command_147 : decode cX13_command 147 = .ok (.putfield 84, 3) := by decide +kernel
theorem dX13_command_150 : decode cX13_command 150 = .ok (.return_, 1) := by decide +kernel
set_option maxRecDepth 20000 in
theorem ggX13_reads_X13_command : GoodIn wsX13_reads wsX13_command := goodIn_r _ [10, 5, 11, 4, 12, 13, 14, 15, 9, 16, 3, 2, 17, 18, 19, 20, 21, 22, 23, 24, 25, 26, 27, 28, 29, 30, 31, 32, 33, 34, 35, 36, 37, 38, 39, 40, 41, 42, 43, 44, 45, 46, 47, 48, 49, 50, 51, 52, 53, 54, 55, 56, 57, 58, 59, 60, 61, 62, 63, 64, 65] (by decide +kernel) (by decide +kernel)
set_option maxRecDepth 20000 in
theorem gX13_reads_X13_command : GoodIn wsX13_reads (wsV RX13 310 RX13 yX13_command wsX13_command) := goodIn_app (goodIn_of _ (by decide +kernel)) ggX13_reads_X13_command
set_option maxRecDepth 20000 in
theorem ggX13_reads_X13_mark : GoodIn wsX13_reads wsX13_mark := goodIn_r _ [31, 5, 3, 2, 17, 39, 40, 41, 42, 43, 44, 45, 46, 47, 48, 49, 50, 51, 52, 53, 54, 55, 56, 57, 58, 59, 60, 61, 62, 63, 64, 65] (by decide +kernel) (by decide +kernel)
set_option maxRecDepth 20000 in
theorem gX13_reads_X13_mark : GoodIn wsX13_reads (wsV RX13 290 RX13 yX13_mark wsX13_mark) := goodIn_app (goodIn_of _ (by decide +kernel)) ggX13_reads_X13_mark
theorem dX13_reads_0 : decode cX13_reads 0 = .ok (.aload_n 0, 1) := by decide +kernel
theorem dX13_reads_1 : decode cX13_reads 1 = .ok (.aload_n 0, 1) := by decide +kernel
theorem dX13_reads_2 : decode cX13_reads 2 = .ok (.getfield 75, 3) := by decide +kernel
theorem dX13_reads_5 : decode cX13_reads 5 = .ok (.putfield 78, 3) := by decide +kernel
theorem dX13_reads_8 : decode cX13_reads 8 = .ok (.aload_n 0, 1) := by decide +kernel
theorem dX13_reads_9 : decode cX13_reads 9 = .ok (.iconst 0, 1) := by decide +kernel
theorem dX13_reads_10 : decode cX13_reads 10 = .ok (.putfield 75, 3) := by decide +kernel
theorem dX13_reads_13 : decode cX13_reads 13 = .ok (.aload_n 0, 1) := by decide +kernel
theorem dX13_reads_14 : decode cX13_reads 14 = .ok (.iconst 0, 1) := by decide +kernel
theorem dX13_reads_15 : decode cX13_reads 15 = .ok (.putfield 81, 3) := by decide +kernel
theorem dX13_reads_18 : decode cX13_reads 18 = .ok (.aload_n 0, 1) := by decide +kernel
theorem dX13_reads_19 : decode cX13_reads 19 = .ok (.iconst 0, 1) := by decide +kernel
theorem dX13_reads_20 : decode cX13_reads 20 = .ok (.putfield 84, 3) := by decide +kernel
theorem dX13_reads_23 : decode cX13_reads 23 = .ok (.aload_n 0, 1) := by decide +kernel
theorem dX13_reads_24 : decode cX13_reads 24 = .ok (.iconst 0, 1) := by decide +kernel
theorem dX13_reads_25 : decode cX13_reads 25 = .ok (.putfield 87, 3) := by decide +kernel
theorem dX13_reads_28 : decode cX13_reads 28 = .ok (.aload_n 0, 1) := by decide +kernel
theorem dX13_reads_29 : decode cX13_reads 29 = .ok (.invokevirtual 310, 3) := by decide +kernel
theorem dX13_reads_32 : decode cX13_reads 32 = .ok (.aload_n 0, 1) := by decide +kernel
theorem dX13_reads_33 : decode cX13_reads 33 = .ok (.invokevirtual 290, 3) := by decide +kernel
theorem dX13_reads_36 : decode cX13_reads 36 = .ok (.bipush 59, 2) := by decide +kernel
theorem dX13_reads_38 : decode cX13_reads 38 = .ok (.if_icmp .ne 20, 3) := by decide +kernel
theorem dX13_reads_41 : decode cX13_reads 41 = .ok (.aload_n 0, 1) := by decide +kernel
theorem dX13_reads_42 : decode cX13_reads 42 = .ok (.dup, 1) := by decide +kernel
theorem dX13_reads_43 : decode cX13_reads 43 = .ok (.getfield 81, 3) := by decide +kernel
theorem dX13_reads_46 : decode cX13_reads 46 = .ok (.iconst 1, 1) := by decide +kernel
theorem dX13_reads_47 : decode cX13_reads 47 = .ok (.iadd, 1) := by decide +kernel
theorem dX13_reads_48 : decode cX13_reads 48 = .ok (.putfield 81, 3) := by decide +kernel
theorem dX13_reads_51 : decode cX13_reads 51 = .ok (.aload_n 0, 1) := by decide +kernel
theorem dX13_reads_52 : decode cX13_reads 52 = .ok (.invokevirtual 310, 3) := by decide +kernel
theorem dX13_reads_55 : decode cX13_reads 55 = .ok (.goto (-23), 3) := by decide +kernel
theorem dX13_reads_58 : decode cX13_reads 58 = .ok (.aload_n 0, 1) := by decide +kernel
theorem dX13_reads_59 : decode cX13_reads 59 = .ok (.dup, 1) := by decide +kernel
theorem dX13_reads_60 : decode cX13_reads 60 = .ok (.getfield 87, 3) := by decide +kernel
theorem dX13_reads_63 : decode cX13_reads 63 = .ok (.aload_n 0, 1) := by decide +kernel
theorem dX13_reads_64 : decode cX13_reads 64 = .ok (.getfield 81, 3) := by decide +kernel
theorem dX13_reads_67 : decode cX13_reads 67 = .ok (.aload_n 0, 1) := by decide +kernel
theorem dX13_reads_68 : decode cX13_reads 68 = .ok (.getfield 78, 3) := by decide +kernel
theorem dX13_reads_71 : decode cX13_reads 71 = .ok (.if_icmp .ge 7, 3) := by decide +kernel
theorem dX13_reads_74 : decode cX13_reads 74 = .ok (.iconst 1, 1) := by decide +kernel
theorem dX13_reads_75 : decode cX13_reads 75 = .ok (.goto 4, 3) := by decide +kernel
theorem dX13_reads_78 : decode cX13_reads 78 = .ok (.iconst 0, 1) := by decide +kernel
theorem dX13_reads_79 : decode cX13_reads 79 = .ok (.ior, 1) := by decide +kernel
theorem dX13_reads_80 : decode cX13_reads 80 = .ok (.putfield 87, 3) := by decide +kernel
theorem dX13_reads_83 : decode cX13_reads 83 = .ok (.return_, 1) := by decide +kernel
theorem dX13_isNot_0 : decode cX13_isNot 0 = .ok (.aload_n 0, 1) := by decide +kernel
theorem dX13_isNot_1 : decode cX13_isNot 1 = .ok (.iload_n 1, 1) := by decide +kernel
theorem dX13_isNot_2 : decode cX13_isNot 2 = .ok (.ifCond .ne 7, 3) := by decide +kernel
theorem dX13_isNot_5 : decode cX13_isNot 5 = .ok (.iconst 1, 1) := by decide +kernel
theorem dX13_isNot_6 : decode cX13_isNot 6 = .ok (.goto 4, 3) := by decide +kernel
theorem dX13_isNot_9 : decode cX13_isNot 9 = .ok (.iconst 0, 1) := by decide +kernel
theorem dX13_isNot_10 : decode cX13_isNot 10 = .ok (.putfield 90, 3) := by decide +kernel
theorem dX13_isNot_13 : decode cX13_isNot 13 = .ok (.aload_n 0, 1) := by decide +kernel
theorem dX13_isNot_14 : decode cX13_isNot 14 = .ok (.getfield 90, 3) := by decide +kernel
theorem dX13_isNot_17 : decode cX13_isNot 17 = .ok (.ireturn, 1) := by decide +kernel
set_option maxRecDepth 20000 in
theorem ggX13_cannot_X13_isBalcony : GoodIn wsX13_cannot wsX13_isBalcony := goodIn_r _ [7, 8, 9, 6, 10] (by decide +kernel) (by decide +kernel)
set_option maxRecDepth 20000 in
theorem gX13_cannot_X13_isBalcony : GoodIn wsX13_cannot (va_wsS RX13 138 yX13_isBalcony wsX13_isBalcony) := goodIn_app (goodIn_of _ (by decide +kernel)) ggX13_cannot_X13_isBalcony
set_option maxRecDepth 20000 in
theorem ggX13_cannot_X13_areMany : GoodIn wsX13_cannot wsX13_areMany := goodIn_r _ [13, 8, 9, 6, 10] (by decide +kernel) (by decide +kernel)
set_option maxRecDepth 20000 in
theorem gX13_cannot_X13_areMany : GoodIn wsX13_cannot (va_wsS RX13 142 yX13_areMany wsX13_areMany) := goodIn_app (goodIn_of _ (by decide +kernel)) ggX13_cannot_X13_areMany
set_option maxRecDepth 20000 in
theorem ggX13_cannot_X13_isNot : GoodIn wsX13_cannot wsX13_isNot := goodIn_r _ [17, 2, 154, 155, 156, 157, 158, 159, 160, 161, 162, 163, 164, 165, 166, 167, 168, 169, 170, 171, 172, 173, 174, 175, 176, 177, 178, 179, 180] (by decide +kernel) (by decide +kernel)
set_option maxRecDepth 20000 in
theorem gX13_cannot_X13_isNot : GoodIn wsX13_cannot (wsV RX13 313 RX13 yX13_isNot wsX13_isNot) := goodIn_app (goodIn_of _ (by decide +kernel)) ggX13_cannot_X13_isNot
set_option maxRecDepth 20000 in
theorem ggX13_cannot_X13_isRefusedPlant : GoodIn wsX13_cannot wsX13_isRefusedPlant := goodIn_r _ [21, 22, 23, 24, 6, 25, 26, 27, 28, 29, 30, 31, 32, 154, 155, 156, 157, 158, 159, 160, 161, 162, 163, 164, 165, 166, 167, 168, 169, 170, 171, 172, 173, 174, 175, 176, 177, 178, 179, 180] (by decide +kernel) (by decide +kernel)
set_option maxRecDepth 20000 in
theorem gX13_cannot_X13_isRefusedPlant : GoodIn wsX13_cannot (wsV RX13 145 RX13 yX13_isRefusedPlant wsX13_isRefusedPlant) := goodIn_app (goodIn_of _ (by decide +kernel)) ggX13_cannot_X13_isRefusedPlant
set_option maxRecDepth 20000 in
theorem ggX13_cannot_X13_puts : GoodIn wsX13_cannot wsX13_puts := goodIn_r _ [36, 26, 22, 23, 24, 6, 25, 154, 155, 156, 157, 158, 159, 160, 161, 162, 163, 164, 165, 166, 167, 168, 169, 170, 171, 172, 173, 174, 175, 176, 177, 178, 179, 180] (by decide +kernel) (by decide +kernel)
set_option maxRecDepth 20000 in
theorem gX13_cannot_X13_puts : GoodIn wsX13_cannot (wsV RX13 151 RX13 yX13_puts wsX13_puts) := goodIn_app (goodIn_of _ (by decide +kernel)) ggX13_cannot_X13_puts
set_option maxRecDepth 20000 in
theorem ggX13_cannot_X13_isTolerance : GoodIn wsX13_cannot wsX13_isTolerance := goodIn_r _ [39, 8, 9, 6, 10] (by decide +kernel) (by decide +kernel)
set_option maxRecDepth 20000 in
theorem gX13_cannot_X13_isTolerance : GoodIn wsX13_cannot (va_wsS RX13 157 yX13_isTolerance wsX13_isTolerance) := goodIn_app (goodIn_of _ (by decide +kernel)) ggX13_cannot_X13_isTolerance
set_option maxRecDepth 20000 in
theorem ggX13_cannot_X13_isRefusedBear : GoodIn wsX13_cannot wsX13_isRefusedBear := goodIn_r _ [43, 26, 27, 28, 29, 6, 30, 31, 32, 154, 155, 156, 157, 158, 159, 160, 161, 162, 163, 164, 165, 166, 167, 168, 169, 170, 171, 172, 173, 174, 175, 176, 177, 178, 179, 180] (by decide +kernel) (by decide +kernel)
set_option maxRecDepth 20000 in
theorem gX13_cannot_X13_isRefusedBear : GoodIn wsX13_cannot (wsV RX13 160 RX13 yX13_isRefusedBear wsX13_isRefusedBear) := goodIn_app (goodIn_of _ (by decide +kernel)) ggX13_cannot_X13_isRefusedBear
set_option maxRecDepth 20000 in
theorem ggX13_cannot_X13_tells : GoodIn wsX13_cannot wsX13_tells := goodIn_r _ [47, 26, 154, 155, 156, 157, 158, 159, 160, 161, 162, 163, 164, 165, 166, 167, 168, 169, 170, 171, 172, 173, 174, 175, 176, 177, 178, 179, 180] (by decide +kernel) (by decide +kernel)
set_option maxRecDepth 20000 in
theorem gX13_cannot_X13_tells : GoodIn wsX13_cannot (wsV RX13 163 RX13 yX13_tells wsX13_tells) := goodIn_app (goodIn_of _ (by decide +kernel)) ggX13_cannot_X13_tells
set_option maxRecDepth 20000 in
theorem ggX13_cannot_X13_areTwo : GoodIn wsX13_cannot wsX13_areTwo := goodIn_r _ [50, 4, 5, 6, 7, 8, 9, 10] (by decide +kernel) (by decide +kernel)
set_option maxRecDepth 20000 in
theorem gX13_cannot_X13_areTwo : GoodIn wsX13_cannot (va_wsS RX13 169 yX13_areTwo wsX13_areTwo) := goodIn_app (goodIn_of _ (by decide +kernel)) ggX13_cannot_X13_areTwo
set_option maxRecDepth 20000 in
theorem ggX13_cannot_X13_isRefusedHang : GoodIn wsX13_cannot wsX13_isRefusedHang := goodIn_r _ [54, 26, 55, 56, 57, 6, 58, 27, 28, 29, 30, 31, 32, 59, 60, 61, 62, 63, 64, 65, 66, 154, 155, 156, 157, 158, 159, 160, 161, 162, 163, 164, 165, 166, 167, 168, 169, 170, 171, 172, 173, 174, 175, 176, 177, 178, 179, 180] (by decide +kernel) (by decide +kernel)
set_option maxRecDepth 20000 in
theorem gX13_cannot_X13_isRefusedHang : GoodIn wsX13_cannot (wsV RX13 172 RX13 yX13_isRefusedHang wsX13_isRefusedHang) := goodIn_app (goodIn_of _ (by decide +kernel)) ggX13_cannot_X13_isRefusedHang
set_option maxRecDepth 20000 in
theorem ggX13_cannot_X13_hangs : GoodIn wsX13_cannot wsX13_hangs := goodIn_r _ [70, 26, 154, 155, 156, 157, 158, 159, 160, 161, 162, 163, 164, 165, 166, 167, 168, 169, 170, 171, 172, 173, 174, 175, 176, 177, 178, 179, 180] (by decide +kernel) (by decide +kernel)
set_option maxRecDepth 20000 in
theorem gX13_cannot_X13_hangs : GoodIn wsX13_cannot (wsV RX13 175 RX13 yX13_hangs wsX13_hangs) := goodIn_app (goodIn_of _ (by decide +kernel)) ggX13_cannot_X13_hangs
set_option maxRecDepth 20000 in
theorem ggX13_cannot_X13_isRefusedGreet : GoodIn wsX13_cannot wsX13_isRefusedGreet := goodIn_r _ [74, 26, 75, 76, 77, 6, 78, 55, 56, 57, 58, 27, 28, 29, 30, 31, 32, 79, 80, 81, 82, 83, 84, 85, 86, 87, 88, 89, 22, 23, 24, 25, 59, 60, 61, 62, 63, 64, 65, 66, 90, 91, 92, 93, 154, 155, 156, 157, 158, 159, 160, 161, 162, 163, 164, 165, 166, 167, 168, 169, 170, 171, 172, 173, 174, 175, 176, 177, 178, 179, 180] (by decide +kernel) (by decide +kernel)
set_option maxRecDepth 20000 in
theorem gX13_cannot_X13_isRefusedGreet : GoodIn wsX13_cannot (wsV RX13 185 RX13 yX13_isRefusedGreet wsX13_isRefusedGreet) := goodIn_app (goodIn_of _ (by decide +kernel)) ggX13_cannot_X13_isRefusedGreet
set_option maxRecDepth 20000 in
theorem ggX13_cannot_X13_greets : GoodIn wsX13_cannot wsX13_greets := goodIn_r _ [97, 26, 90, 91, 92, 6, 93, 154, 155, 156, 157, 158, 159, 160, 161, 162, 163, 164, 165, 166, 167, 168, 169, 170, 171, 172, 173, 174, 175, 176, 177, 178, 179, 180] (by decide +kernel) (by decide +kernel)
set_option maxRecDepth 20000 in
theorem gX13_cannot_X13_greets : GoodIn wsX13_cannot (wsV RX13 188 RX13 yX13_greets wsX13_greets) := goodIn_app (goodIn_of _ (by decide +kernel)) ggX13_cannot_X13_greets
set_option maxRecDepth 20000 in
theorem ggX13_cannot_X13_isRefusedGive : GoodIn wsX13_cannot wsX13_isRefusedGive := goodIn_r _ [101, 75, 76, 77, 6, 78, 55, 56, 57, 58, 27, 28, 29, 30, 31, 32, 79, 80, 81, 82, 83, 84, 85, 86, 26, 87, 88, 89, 22, 23, 24, 25, 59, 60, 61, 62, 63, 64, 65, 66, 154, 155, 156, 157, 158, 159, 160, 161, 162, 163, 164, 165, 166, 167, 168, 169, 170, 171, 172, 173, 174, 175, 176, 177, 178, 179, 180] (by decide +kernel) (by decide +kernel)
set_option maxRecDepth 20000 in
theorem gX13_cannot_X13_isRefusedGive : GoodIn wsX13_cannot (wsV RX13 191 RX13 yX13_isRefusedGive wsX13_isRefusedGive) := goodIn_app (goodIn_of _ (by decide +kernel)) ggX13_cannot_X13_isRefusedGive
set_option maxRecDepth 20000 in
theorem ggX13_cannot_X13_gives : GoodIn wsX13_cannot wsX13_gives := goodIn_r _ [105, 26, 22, 23, 24, 6, 25, 154, 155, 156, 157, 158, 159, 160, 161, 162, 163, 164, 165, 166, 167, 168, 169, 170, 171, 172, 173, 174, 175, 176, 177, 178, 179, 180] (by decide +kernel) (by decide +kernel)
set_option maxRecDepth 20000 in
theorem gX13_cannot_X13_gives : GoodIn wsX13_cannot (wsV RX13 194 RX13 yX13_gives wsX13_gives) := goodIn_app (goodIn_of _ (by decide +kernel)) ggX13_cannot_X13_gives
set_option maxRecDepth 20000 in
theorem ggX13_cannot_X13_isRefusedCat : GoodIn wsX13_cannot wsX13_isRefusedCat := goodIn_r _ [109, 26, 110, 111, 112, 6, 113, 114, 115, 116, 117, 27, 28, 29, 30, 31, 32, 154, 155, 156, 157, 158, 159, 160, 161, 162, 163, 164, 165, 166, 167, 168, 169, 170, 171, 172, 173, 174, 175, 176, 177, 178, 179, 180] (by decide +kernel) (by decide +kernel)
set_option maxRecDepth 20000 in
theorem gX13_cannot_X13_isRefusedCat : GoodIn wsX13_cannot (wsV RX13 206 RX13 yX13_isRefusedCat wsX13_isRefusedCat) := goodIn_app (goodIn_of _ (by decide +kernel)) ggX13_cannot_X13_isRefusedCat
set_option maxRecDepth 20000 in
theorem ggX13_cannot_X13_comes : GoodIn wsX13_cannot wsX13_comes := goodIn_r _ [121, 26, 154, 155, 156, 157, 158, 159, 160, 161, 162, 163, 164, 165, 166, 167, 168, 169, 170, 171, 172, 173, 174, 175, 176, 177, 178, 179, 180] (by decide +kernel) (by decide +kernel)
set_option maxRecDepth 20000 in
theorem gX13_cannot_X13_comes : GoodIn wsX13_cannot (wsV RX13 209 RX13 yX13_comes wsX13_comes) := goodIn_app (goodIn_of _ (by decide +kernel)) ggX13_cannot_X13_comes
set_option maxRecDepth 20000 in
theorem ggX13_cannot_X13_isRefusedSwap : GoodIn wsX13_cannot wsX13_isRefusedSwap := goodIn_r _ [125, 26, 75, 76, 77, 6, 78, 55, 56, 57, 58, 27, 28, 29, 30, 31, 32, 79, 80, 81, 82, 83, 84, 85, 86, 87, 88, 89, 22, 23, 24, 25, 59, 60, 61, 62, 63, 64, 65, 66, 110, 111, 112, 113, 114, 115, 116, 117, 154, 155, 156, 157, 158, 159, 160, 161, 162, 163, 164, 165, 166, 167, 168, 169, 170, 171, 172, 173, 174, 175, 176, 177, 178, 179, 180] (by decide +kernel) (by decide +kernel)
set_option maxRecDepth 20000 in
theorem gX13_cannot_X13_isRefusedSwap : GoodIn wsX13_cannot (wsV RX13 215 RX13 yX13_isRefusedSwap wsX13_isRefusedSwap) := goodIn_app (goodIn_of _ (by decide +kernel)) ggX13_cannot_X13_isRefusedSwap
set_option maxRecDepth 20000 in
theorem ggX13_cannot_X13_swaps : GoodIn wsX13_cannot wsX13_swaps := goodIn_r _ [129, 110, 111, 112, 6, 113, 26, 114, 115, 116, 117, 130, 131, 132, 133, 154, 155, 156, 157, 158, 159, 160, 161, 162, 163, 164, 165, 166, 167, 168, 169, 170, 171, 172, 173, 174, 175, 176, 177, 178, 179, 180] (by decide +kernel) (by decide +kernel)
set_option maxRecDepth 20000 in
theorem gX13_cannot_X13_swaps : GoodIn wsX13_cannot (wsV RX13 218 RX13 yX13_swaps wsX13_swaps) := goodIn_app (goodIn_of _ (by decide +kernel)) ggX13_cannot_X13_swaps
set_option maxRecDepth 20000 in
theorem ggX13_cannot_X13_ends : GoodIn wsX13_cannot wsX13_ends := goodIn_r _ [137, 26, 138, 139, 140, 6, 141, 142, 143, 144, 145, 22, 23, 24, 25, 8, 9, 10, 146, 147, 148, 149, 150, 151, 152, 153, 63, 64, 65, 66, 154, 155, 156, 157, 158, 159, 160, 161, 162, 163, 164, 165, 166, 167, 168, 169, 170, 171, 172, 173, 174, 175, 176, 177, 178, 179, 180] (by decide +kernel) (by decide +kernel)
set_option maxRecDepth 20000 in
theorem gX13_cannot_X13_ends : GoodIn wsX13_cannot (wsV RX13 233 RX13 yX13_ends wsX13_ends) := goodIn_app (goodIn_of _ (by decide +kernel)) ggX13_cannot_X13_ends
theorem dX13_cannot_0 : decode cX13_cannot 0 = .ok (.iconst 0, 1) := by decide +kernel
theorem dX13_cannot_1 : decode cX13_cannot 1 = .ok (.istore_n 2, 1) := by decide +kernel
theorem dX13_cannot_2 : decode cX13_cannot 2 = .ok (.aload_n 0, 1) := by decide +kernel
theorem dX13_cannot_3 : decode cX13_cannot 3 = .ok (.getfield 72, 3) := by decide +kernel
theorem dX13_cannot_6 : decode cX13_cannot 6 = .ok (.iconst 3, 1) := by decide +kernel
theorem dX13_cannot_7 : decode cX13_cannot 7 = .ok (.iload_n 1, 1) := by decide +kernel
theorem dX13_cannot_8 : decode cX13_cannot 8 = .ok (.imul, 1) := by decide +kernel
theorem dX13_cannot_9 : decode cX13_cannot 9 = .ok (.iaload, 1) := by decide +kernel
theorem dX13_cannot_10 : decode cX13_cannot 10 = .ok (.istore_n 3, 1) := by decide +kernel
theorem dX13_cannot_11 : decode cX13_cannot 11 = .ok (.aload_n 0, 1) := by decide +kernel
theorem dX13_cannot_12 : decode cX13_cannot 12 = .ok (.getfield 72, 3) := by decide +kernel
theorem dX13_cannot_15 : decode cX13_cannot 15 = .ok (.iconst 3, 1) := by decide +kernel
theorem dX13_cannot_16 : decode cX13_cannot 16 = .ok (.iload_n 1, 1) := by decide +kernel
theorem dX13_cannot_17 : decode cX13_cannot 17 = .ok (.imul, 1) := by decide +kernel
theorem dX13_cannot_18 : decode cX13_cannot 18 = .ok (.iconst 1, 1) := by decide +kernel
theorem dX13_cannot_19 : decode cX13_cannot 19 = .ok (.iadd, 1) := by decide +kernel
theorem dX13_cannot_20 : decode cX13_cannot 20 = .ok (.iaload, 1) := by decide +kernel
theorem dX13_cannot_21 : decode cX13_cannot 21 = .ok (.istore 4, 2) := by decide +kernel
theorem dX13_cannot_23 : decode cX13_cannot 23 = .ok (.aload_n 0, 1) := by decide +kernel
theorem dX13_cannot_24 : decode cX13_cannot 24 = .ok (.getfield 72, 3) := by decide +kernel
theorem dX13_cannot_27 : decode cX13_cannot 27 = .ok (.iconst 3, 1) := by decide +kernel
theorem dX13_cannot_28 : decode cX13_cannot 28 = .ok (.iload_n 1, 1) := by decide +kernel
theorem dX13_cannot_29 : decode cX13_cannot 29 = .ok (.imul, 1) := by decide +kernel
theorem dX13_cannot_30 : decode cX13_cannot 30 = .ok (.iconst 2, 1) := by decide +kernel
theorem dX13_cannot_31 : decode cX13_cannot 31 = .ok (.iadd, 1) := by decide +kernel
theorem dX13_cannot_32 : decode cX13_cannot 32 = .ok (.iaload, 1) := by decide +kernel
theorem dX13_cannot_33 : decode cX13_cannot 33 = .ok (.istore 5, 2) := by decide +kernel
theorem dX13_cannot_35 : decode cX13_cannot 35 = .ok (.aload_n 0, 1) := by decide +kernel
theorem dX13_cannot_36 : decode cX13_cannot 36 = .ok (.iconst 0, 1) := by decide +kernel
theorem dX13_cannot_37 : decode cX13_cannot 37 = .ok (.putfield 90, 3) := by decide +kernel
theorem dX13_cannot_40 : decode cX13_cannot 40 = .ok (.aload_n 0, 1) := by decide +kernel
theorem dX13_cannot_41 : decode cX13_cannot 41 = .ok (.getfield 69, 3) := by decide +kernel
theorem dX13_cannot_44 : decode cX13_cannot 44 = .ok (.iload_n 1, 1) := by decide +kernel
theorem dX13_cannot_45 : decode cX13_cannot 45 = .ok (.iaload, 1) := by decide +kernel
theorem dX13_cannot_46 : decode cX13_cannot 46 = .ok (.tableswitch 347 0 6 #[42, 91, 140, 193, 228, 283, 312], 42) := by decide +kernel
theorem dX13_cannot_88 : decode cX13_cannot 88 = .ok (.aload_n 0, 1) := by decide +kernel
theorem dX13_cannot_89 : decode cX13_cannot 89 = .ok (.iload_n 3, 1) := by decide +kernel
theorem dX13_cannot_90 : decode cX13_cannot 90 = .ok (.invokestatic 138, 3) := by decide +kernel
theorem dX13_cannot_93 : decode cX13_cannot 93 = .ok (.ifCond .eq 15, 3) := by decide +kernel
theorem dX13_cannot_96 : decode cX13_cannot 96 = .ok (.iload 4, 2) := by decide +kernel
theorem dX13_cannot_98 : decode cX13_cannot 98 = .ok (.invokestatic 142, 3) := by decide +kernel
theorem dX13_cannot_101 : decode cX13_cannot 101 = .ok (.ifCond .eq 7, 3) := by decide +kernel
theorem dX13_cannot_104 : decode cX13_cannot 104 = .ok (.iconst 1, 1) := by decide +kernel
theorem dX13_cannot_105 : decode cX13_cannot 105 = .ok (.goto 4, 3) := by decide +kernel
theorem dX13_cannot_108 : decode cX13_cannot 108 = .ok (.iconst 0, 1) := by decide +kernel
theorem dX13_cannot_109 : decode cX13_cannot 109 = .ok (.invokevirtual 313, 3) := by decide +kernel
theorem dX13_cannot_112 : decode cX13_cannot 112 = .ok (.ifCond .ne 13, 3) := by decide +kernel
theorem dX13_cannot_115 : decode cX13_cannot 115 = .ok (.aload_n 0, 1) := by decide +kernel
theorem dX13_cannot_116 : decode cX13_cannot 116 = .ok (.iload_n 3, 1) := by decide +kernel
theorem dX13_cannot_117 : decode cX13_cannot 117 = .ok (.iload 4, 2) := by decide +kernel
theorem dX13_cannot_119 : decode cX13_cannot 119 = .ok (.invokevirtual 145, 3) := by decide +kernel
theorem dX13_cannot_122 : decode cX13_cannot 122 = .ok (.ifCond .eq 5, 3) := by decide +kernel
theorem dX13_cannot_125 : decode cX13_cannot 125 = .ok (.iconst 1, 1) := by decide +kernel
theorem dX13_cannot_126 : decode cX13_cannot 126 = .ok (.ireturn, 1) := by decide +kernel
theorem dX13_cannot_127 : decode cX13_cannot 127 = .ok (.aload_n 0, 1) := by decide +kernel
theorem dX13_cannot_128 : decode cX13_cannot 128 = .ok (.iload_n 3, 1) := by decide +kernel
theorem dX13_cannot_129 : decode cX13_cannot 129 = .ok (.iload 4, 2) := by decide +kernel
theorem dX13_cannot_131 : decode cX13_cannot 131 = .ok (.invokevirtual 151, 3) := by decide +kernel
theorem dX13_cannot_134 : decode cX13_cannot 134 = .ok (.istore_n 2, 1) := by decide +kernel
theorem dX13_cannot_135 : decode cX13_cannot 135 = .ok (.iconst 0, 1) := by decide +kernel
theorem dX13_cannot_136 : decode cX13_cannot 136 = .ok (.ireturn, 1) := by decide +kernel
theorem dX13_cannot_137 : decode cX13_cannot 137 = .ok (.aload_n 0, 1) := by decide +kernel
theorem dX13_cannot_138 : decode cX13_cannot 138 = .ok (.iload_n 3, 1) := by decide +kernel
theorem dX13_cannot_139 : decode cX13_cannot 139 = .ok (.invokestatic 138, 3) := by decide +kernel
theorem dX13_cannot_142 : decode cX13_cannot 142 = .ok (.ifCond .eq 15, 3) := by decide +kernel
theorem dX13_cannot_145 : decode cX13_cannot 145 = .ok (.iload 4, 2) := by decide +kernel
theorem dX13_cannot_147 : decode cX13_cannot 147 = .ok (.invokestatic 157, 3) := by decide +kernel
theorem dX13_cannot_150 : decode cX13_cannot 150 = .ok (.ifCond .eq 7, 3) := by decide +kernel
theorem dX13_cannot_153 : decode cX13_cannot 153 = .ok (.iconst 1, 1) := by decide +kernel
theorem dX13_cannot_154 : decode cX13_cannot 154 = .ok (.goto 4, 3) := by decide +kernel
theorem dX13_cannot_157 : decode cX13_cannot 157 = .ok (.iconst 0, 1) := by decide +kernel
theorem dX13_cannot_158 : decode cX13_cannot 158 = .ok (.invokevirtual 313, 3) := by decide +kernel
theorem dX13_cannot_161 : decode cX13_cannot 161 = .ok (.ifCond .ne 13, 3) := by decide +kernel
theorem dX13_cannot_164 : decode cX13_cannot 164 = .ok (.aload_n 0, 1) := by decide +kernel
theorem dX13_cannot_165 : decode cX13_cannot 165 = .ok (.iload_n 3, 1) := by decide +kernel
theorem dX13_cannot_166 : decode cX13_cannot 166 = .ok (.iload 4, 2) := by decide +kernel
theorem dX13_cannot_168 : decode cX13_cannot 168 = .ok (.invokevirtual 160, 3) := by decide +kernel
theorem dX13_cannot_171 : decode cX13_cannot 171 = .ok (.ifCond .eq 5, 3) := by decide +kernel
theorem dX13_cannot_174 : decode cX13_cannot 174 = .ok (.iconst 1, 1) := by decide +kernel
theorem dX13_cannot_175 : decode cX13_cannot 175 = .ok (.ireturn, 1) := by decide +kernel
theorem dX13_cannot_176 : decode cX13_cannot 176 = .ok (.aload_n 0, 1) := by decide +kernel
theorem dX13_cannot_177 : decode cX13_cannot 177 = .ok (.iload_n 3, 1) := by decide +kernel
theorem dX13_cannot_178 : decode cX13_cannot 178 = .ok (.iload 4, 2) := by decide +kernel
theorem dX13_cannot_180 : decode cX13_cannot 180 = .ok (.invokevirtual 163, 3) := by decide +kernel
theorem dX13_cannot_183 : decode cX13_cannot 183 = .ok (.istore_n 2, 1) := by decide +kernel
theorem dX13_cannot_184 : decode cX13_cannot 184 = .ok (.iconst 0, 1) := by decide +kernel
theorem dX13_cannot_185 : decode cX13_cannot 185 = .ok (.ireturn, 1) := by decide +kernel
theorem dX13_cannot_186 : decode cX13_cannot 186 = .ok (.aload_n 0, 1) := by decide +kernel
theorem dX13_cannot_187 : decode cX13_cannot 187 = .ok (.iload_n 3, 1) := by decide +kernel
theorem dX13_cannot_188 : decode cX13_cannot 188 = .ok (.iload 4, 2) := by decide +kernel
theorem dX13_cannot_190 : decode cX13_cannot 190 = .ok (.invokestatic 169, 3) := by decide +kernel
theorem dX13_cannot_193 : decode cX13_cannot 193 = .ok (.ifCond .eq 15, 3) := by decide +kernel
theorem dX13_cannot_196 : decode cX13_cannot 196 = .ok (.iload 5, 2) := by decide +kernel
theorem dX13_cannot_198 : decode cX13_cannot 198 = .ok (.invokestatic 142, 3) := by decide +kernel
theorem dX13_cannot_201 : decode cX13_cannot 201 = .ok (.ifCond .eq 7, 3) := by decide +kernel
theorem dX13_cannot_204 : decode cX13_cannot 204 = .ok (.iconst 1, 1) := by decide +kernel
theorem dX13_cannot_205 : decode cX13_cannot 205 = .ok (.goto 4, 3) := by decide +kernel
theorem dX13_cannot_208 : decode cX13_cannot 208 = .ok (.iconst 0, 1) := by decide +kernel
theorem dX13_cannot_209 : decode cX13_cannot 209 = .ok (.invokevirtual 313, 3) := by decide +kernel
theorem dX13_cannot_212 : decode cX13_cannot 212 = .ok (.ifCond .ne 13, 3) := by decide +kernel
theorem dX13_cannot_215 : decode cX13_cannot 215 = .ok (.aload_n 0, 1) := by decide +kernel
theorem dX13_cannot_216 : decode cX13_cannot 216 = .ok (.iload_n 3, 1) := by decide +kernel
theorem dX13_cannot_217 : decode cX13_cannot 217 = .ok (.iload 4, 2) := by decide +kernel
theorem dX13_cannot_219 : decode cX13_cannot 219 = .ok (.invokevirtual 172, 3) := by decide +kernel
theorem dX13_cannot_222 : decode cX13_cannot 222 = .ok (.ifCond .eq 5, 3) := by decide +kernel
theorem dX13_cannot_225 : decode cX13_cannot 225 = .ok (.iconst 1, 1) := by decide +kernel
theorem dX13_cannot_226 : decode cX13_cannot 226 = .ok (.ireturn, 1) := by decide +kernel
theorem dX13_cannot_227 : decode cX13_cannot 227 = .ok (.aload_n 0, 1) := by decide +kernel
theorem dX13_cannot_228 : decode cX13_cannot 228 = .ok (.iload_n 3, 1) := by decide +kernel
theorem dX13_cannot_229 : decode cX13_cannot 229 = .ok (.iload 4, 2) := by decide +kernel
theorem dX13_cannot_231 : decode cX13_cannot 231 = .ok (.iload 5, 2) := by decide +kernel
theorem dX13_cannot_233 : decode cX13_cannot 233 = .ok (.invokevirtual 175, 3) := by decide +kernel
theorem dX13_cannot_236 : decode cX13_cannot 236 = .ok (.istore_n 2, 1) := by decide +kernel
theorem dX13_cannot_237 : decode cX13_cannot 237 = .ok (.iconst 0, 1) := by decide +kernel
theorem dX13_cannot_238 : decode cX13_cannot 238 = .ok (.ireturn, 1) := by decide +kernel
theorem dX13_cannot_239 : decode cX13_cannot 239 = .ok (.aload_n 0, 1) := by decide +kernel
theorem dX13_cannot_240 : decode cX13_cannot 240 = .ok (.iload_n 3, 1) := by decide +kernel
theorem dX13_cannot_241 : decode cX13_cannot 241 = .ok (.iload 4, 2) := by decide +kernel
theorem dX13_cannot_243 : decode cX13_cannot 243 = .ok (.invokestatic 169, 3) := by decide +kernel
theorem dX13_cannot_246 : decode cX13_cannot 246 = .ok (.invokevirtual 313, 3) := by decide +kernel
theorem dX13_cannot_249 : decode cX13_cannot 249 = .ok (.ifCond .ne 13, 3) := by decide +kernel
theorem dX13_cannot_252 : decode cX13_cannot 252 = .ok (.aload_n 0, 1) := by decide +kernel
theorem dX13_cannot_253 : decode cX13_cannot 253 = .ok (.iload_n 3, 1) := by decide +kernel
theorem dX13_cannot_254 : decode cX13_cannot 254 = .ok (.iload 4, 2) := by decide +kernel
theorem dX13_cannot_256 : decode cX13_cannot 256 = .ok (.invokevirtual 185, 3) := by decide +kernel
theorem dX13_cannot_259 : decode cX13_cannot 259 = .ok (.ifCond .eq 5, 3) := by decide +kernel
theorem dX13_cannot_262 : decode cX13_cannot 262 = .ok (.iconst 1, 1) := by decide +kernel
theorem dX13_cannot_263 : decode cX13_cannot 263 = .ok (.ireturn, 1) := by decide +kernel
theorem dX13_cannot_264 : decode cX13_cannot 264 = .ok (.aload_n 0, 1) := by decide +kernel
theorem dX13_cannot_265 : decode cX13_cannot 265 = .ok (.iload_n 3, 1) := by decide +kernel
theorem dX13_cannot_266 : decode cX13_cannot 266 = .ok (.iload 4, 2) := by decide +kernel
theorem dX13_cannot_268 : decode cX13_cannot 268 = .ok (.invokevirtual 188, 3) := by decide +kernel
theorem dX13_cannot_271 : decode cX13_cannot 271 = .ok (.istore_n 2, 1) := by decide +kernel
theorem dX13_cannot_272 : decode cX13_cannot 272 = .ok (.iconst 0, 1) := by decide +kernel
theorem dX13_cannot_273 : decode cX13_cannot 273 = .ok (.ireturn, 1) := by decide +kernel
theorem dX13_cannot_274 : decode cX13_cannot 274 = .ok (.aload_n 0, 1) := by decide +kernel
theorem dX13_cannot_275 : decode cX13_cannot 275 = .ok (.iload_n 3, 1) := by decide +kernel
theorem dX13_cannot_276 : decode cX13_cannot 276 = .ok (.iload 4, 2) := by decide +kernel
theorem dX13_cannot_278 : decode cX13_cannot 278 = .ok (.invokestatic 169, 3) := by decide +kernel
theorem dX13_cannot_281 : decode cX13_cannot 281 = .ok (.ifCond .eq 15, 3) := by decide +kernel
theorem dX13_cannot_284 : decode cX13_cannot 284 = .ok (.iload 5, 2) := by decide +kernel
theorem dX13_cannot_286 : decode cX13_cannot 286 = .ok (.invokestatic 142, 3) := by decide +kernel
theorem dX13_cannot_289 : decode cX13_cannot 289 = .ok (.ifCond .eq 7, 3) := by decide +kernel
theorem dX13_cannot_292 : decode cX13_cannot 292 = .ok (.iconst 1, 1) := by decide +kernel
theorem dX13_cannot_293 : decode cX13_cannot 293 = .ok (.goto 4, 3) := by decide +kernel
theorem dX13_cannot_296 : decode cX13_cannot 296 = .ok (.iconst 0, 1) := by decide +kernel
theorem dX13_cannot_297 : decode cX13_cannot 297 = .ok (.invokevirtual 313, 3) := by decide +kernel
theorem dX13_cannot_300 : decode cX13_cannot 300 = .ok (.ifCond .ne 15, 3) := by decide +kernel
theorem dX13_cannot_303 : decode cX13_cannot 303 = .ok (.aload_n 0, 1) := by decide +kernel
theorem dX13_cannot_304 : decode cX13_cannot 304 = .ok (.iload_n 3, 1) := by decide +kernel
theorem dX13_cannot_305 : decode cX13_cannot 305 = .ok (.iload 4, 2) := by decide +kernel
theorem dX13_cannot_307 : decode cX13_cannot 307 = .ok (.iload 5, 2) := by decide +kernel
theorem dX13_cannot_309 : decode cX13_cannot 309 = .ok (.invokevirtual 191, 3) := by decide +kernel
theorem dX13_cannot_312 : decode cX13_cannot 312 = .ok (.ifCond .eq 5, 3) := by decide +kernel
theorem dX13_cannot_315 : decode cX13_cannot 315 = .ok (.iconst 1, 1) := by decide +kernel
theorem dX13_cannot_316 : decode cX13_cannot 316 = .ok (.ireturn, 1) := by decide +kernel
theorem dX13_cannot_317 : decode cX13_cannot 317 = .ok (.aload_n 0, 1) := by decide +kernel
theorem dX13_cannot_318 : decode cX13_cannot 318 = .ok (.iload_n 3, 1) := by decide +kernel
theorem dX13_cannot_319 : decode cX13_cannot 319 = .ok (.iload 4, 2) := by decide +kernel
theorem dX13_cannot_321 : decode cX13_cannot 321 = .ok (.iload 5, 2) := by decide +kernel
theorem dX13_cannot_323 : decode cX13_cannot 323 = .ok (.invokevirtual 194, 3) := by decide +kernel
theorem dX13_cannot_326 : decode cX13_cannot 326 = .ok (.istore_n 2, 1) := by decide +kernel
theorem dX13_cannot_327 : decode cX13_cannot 327 = .ok (.iconst 0, 1) := by decide +kernel
theorem dX13_cannot_328 : decode cX13_cannot 328 = .ok (.ireturn, 1) := by decide +kernel
theorem dX13_cannot_329 : decode cX13_cannot 329 = .ok (.aload_n 0, 1) := by decide +kernel
theorem dX13_cannot_330 : decode cX13_cannot 330 = .ok (.iload_n 3, 1) := by decide +kernel
theorem dX13_cannot_331 : decode cX13_cannot 331 = .ok (.invokestatic 138, 3) := by decide +kernel
theorem dX13_cannot_334 : decode cX13_cannot 334 = .ok (.invokevirtual 313, 3) := by decide +kernel
theorem dX13_cannot_337 : decode cX13_cannot 337 = .ok (.ifCond .ne 11, 3) := by decide +kernel
theorem dX13_cannot_340 : decode cX13_cannot 340 = .ok (.aload_n 0, 1) := by decide +kernel
theorem dX13_cannot_341 : decode cX13_cannot 341 = .ok (.iload_n 3, 1) := by decide +kernel
theorem dX13_cannot_342 : decode cX13_cannot 342 = .ok (.invokevirtual 206, 3) := by decide +kernel
theorem dX13_cannot_345 : decode cX13_cannot 345 = .ok (.ifCond .eq 5, 3) := by decide +kernel
theorem dX13_cannot_348 : decode cX13_cannot 348 = .ok (.iconst 1, 1) := by decide +kernel
theorem dX13_cannot_349 : decode cX13_cannot 349 = .ok (.ireturn, 1) := by decide +kernel
theorem dX13_cannot_350 : decode cX13_cannot 350 = .ok (.aload_n 0, 1) := by decide +kernel
theorem dX13_cannot_351 : decode cX13_cannot 351 = .ok (.iload_n 3, 1) := by decide +kernel
theorem dX13_cannot_352 : decode cX13_cannot 352 = .ok (.invokevirtual 209, 3) := by decide +kernel
theorem dX13_cannot_355 : decode cX13_cannot 355 = .ok (.istore_n 2, 1) := by decide +kernel
theorem dX13_cannot_356 : decode cX13_cannot 356 = .ok (.iconst 0, 1) := by decide +kernel
theorem dX13_cannot_357 : decode cX13_cannot 357 = .ok (.ireturn, 1) := by decide +kernel
theorem dX13_cannot_358 : decode cX13_cannot 358 = .ok (.aload_n 0, 1) := by decide +kernel
theorem dX13_cannot_359 : decode cX13_cannot 359 = .ok (.iload_n 3, 1) := by decide +kernel
theorem dX13_cannot_360 : decode cX13_cannot 360 = .ok (.iload 4, 2) := by decide +kernel
theorem dX13_cannot_362 : decode cX13_cannot 362 = .ok (.invokestatic 169, 3) := by decide +kernel
theorem dX13_cannot_365 : decode cX13_cannot 365 = .ok (.invokevirtual 313, 3) := by decide +kernel
theorem dX13_cannot_368 : decode cX13_cannot 368 = .ok (.ifCond .ne 13, 3) := by decide +kernel
theorem dX13_cannot_371 : decode cX13_cannot 371 = .ok (.aload_n 0, 1) := by decide +kernel
theorem dX13_cannot_372 : decode cX13_cannot 372 = .ok (.iload_n 3, 1) := by decide +kernel
theorem dX13_cannot_373 : decode cX13_cannot 373 = .ok (.iload 4, 2) := by decide +kernel
theorem dX13_cannot_375 : decode cX13_cannot 375 = .ok (.invokevirtual 215, 3) := by decide +kernel
theorem dX13_cannot_378 : decode cX13_cannot 378 = .ok (.ifCond .eq 5, 3) := by decide +kernel
theorem dX13_cannot_381 : decode cX13_cannot 381 = .ok (.iconst 1, 1) := by decide +kernel
theorem dX13_cannot_382 : decode cX13_cannot 382 = .ok (.ireturn, 1) := by decide +kernel
theorem dX13_cannot_383 : decode cX13_cannot 383 = .ok (.aload_n 0, 1) := by decide +kernel
theorem dX13_cannot_384 : decode cX13_cannot 384 = .ok (.iload_n 3, 1) := by decide +kernel
theorem dX13_cannot_385 : decode cX13_cannot 385 = .ok (.iload 4, 2) := by decide +kernel
theorem dX13_cannot_387 : decode cX13_cannot 387 = .ok (.invokevirtual 218, 3) := by decide +kernel
theorem dX13_cannot_390 : decode cX13_cannot 390 = .ok (.istore_n 2, 1) := by decide +kernel
theorem dX13_cannot_391 : decode cX13_cannot 391 = .ok (.iconst 0, 1) := by decide +kernel
theorem dX13_cannot_392 : decode cX13_cannot 392 = .ok (.ireturn, 1) := by decide +kernel
theorem dX13_cannot_393 : decode cX13_cannot 393 = .ok (.aload_n 0, 1) := by decide +kernel
theorem dX13_cannot_394 : decode cX13_cannot 394 = .ok (.invokevirtual 233, 3) := by decide +kernel
theorem dX13_cannot_397 : decode cX13_cannot 397 = .ok (.istore_n 2, 1) := by decide +kernel
theorem dX13_cannot_398 : decode cX13_cannot 398 = .ok (.iconst 0, 1) := by decide +kernel
theorem dX13_cannot_399 : decode cX13_cannot 399 = .ok (.ireturn, 1) := by decide +kernel
set_option maxRecDepth 20000 in
theorem ggX13_read_X13_begins : GoodIn wsX13_read wsX13_begins := goodIn_r _ [18, 6, 5, 19, 20, 17, 21, 213, 214, 215, 216, 217, 218, 219, 220, 221, 222, 223, 224, 225, 226, 227, 228, 229, 230, 231, 232, 233, 234, 235, 236, 237, 238, 239] (by decide +kernel) (by decide +kernel)
set_option maxRecDepth 20000 in
theorem gX13_read_X13_begins : GoodIn wsX13_read (wsV RX13 135 RX13 yX13_begins wsX13_begins) := goodIn_app (goodIn_of _ (by decide +kernel)) ggX13_read_X13_begins
set_option maxRecDepth 20000 in
theorem ggX13_read_X13_reads : GoodIn wsX13_read wsX13_reads := goodIn_r _ [25, 26, 27, 2, 4, 1, 28, 29, 30, 17, 31, 32, 33, 34, 35, 36, 37, 38, 39, 40, 41, 42, 43, 44, 45, 46, 47, 48, 49, 50, 51, 52, 53, 54, 55, 56, 57, 58, 59, 213, 214, 215, 216, 217, 218, 219, 220, 221, 222, 223, 224, 225, 226, 227, 228, 229, 230, 231, 232, 233, 234, 235, 236, 237, 238, 239] (by decide +kernel) (by decide +kernel)
set_option maxRecDepth 20000 in
theorem gX13_read_X13_reads : GoodIn wsX13_read (wsV RX13 317 RX13 yX13_reads wsX13_reads) := goodIn_app (goodIn_of _ (by decide +kernel)) ggX13_read_X13_reads
set_option maxRecDepth 20000 in
theorem ggX13_read_X13_cannot : GoodIn wsX13_read wsX13_cannot := goodIn_r _ [63, 33, 7, 32, 64, 65, 17, 66, 57, 58, 59, 67, 68, 69, 70, 71, 72, 73, 74, 75, 76, 77, 78, 79, 80, 81, 6, 82, 83, 84, 85, 8, 10, 86, 87, 88, 89, 90, 91, 92, 93, 94, 95, 96, 97, 98, 99, 100, 101, 102, 103, 104, 105, 106, 107, 108, 109, 110, 111, 112, 113, 114, 115, 116, 117, 118, 119, 120, 121, 122, 123, 124, 125, 126, 127, 128, 129, 130, 131, 132, 133, 134, 135, 136, 137, 138, 139, 140, 141, 142, 143, 144, 145, 146, 147, 148, 149, 150, 151, 152, 153, 154, 155, 156, 157, 158, 159, 160, 161, 162, 163, 164, 165, 166, 167, 168, 169, 170, 171, 172, 173, 174, 175, 176, 177, 178, 179, 180, 181, 182, 183, 184, 185, 186, 187, 188, 189, 190, 191, 192, 193, 194, 195, 196, 197, 198, 199, 200, 201, 202, 203, 204, 205, 206, 213, 214, 215, 216, 217, 218, 219, 220, 221, 222, 223, 224, 225, 226, 227, 228, 229, 230, 231, 232, 233, 234, 235, 236, 237, 238, 239] (by decide +kernel) (by decide +kernel)
set_option maxRecDepth 20000 in
theorem gX13_read_X13_cannot : GoodIn wsX13_read (wsV RX13 320 RX13 yX13_cannot wsX13_cannot) := goodIn_app (goodIn_of _ (by decide +kernel)) ggX13_read_X13_cannot
set_option maxRecDepth 20000 in
theorem ggX13_read_X13_copies : GoodIn wsX13_read wsX13_copies := goodIn_r _ [21] (by decide +kernel) (by decide +kernel)
set_option maxRecDepth 20000 in
theorem gX13_read_X13_copies : GoodIn wsX13_read (va_wsS RX13 96 yX13_copies wsX13_copies) := goodIn_app (goodIn_of _ (by decide +kernel)) ggX13_read_X13_copies
set_option maxRecDepth 20000 in
theorem ggX13_read_X13_keeps : GoodIn wsX13_read wsX13_keeps := goodIn_r _ [210, 211, 212, 5, 19, 20, 17, 21, 213, 214, 215, 216, 217, 218, 219, 220, 221, 222, 223, 224, 225, 226, 227, 228, 229, 230, 231, 232, 233, 234, 235, 236, 237, 238, 239] (by decide +kernel) (by decide +kernel)
set_option maxRecDepth 20000 in
theorem gX13_read_X13_keeps : GoodIn wsX13_read (wsV RX13 154 RX13 yX13_keeps wsX13_keeps) := goodIn_app (goodIn_of _ (by decide +kernel)) ggX13_read_X13_keeps
theorem dX13_read_0 : decode cX13_read 0 = .ok (.aload_n 0, 1) := by decide +kernel
theorem dX13_read_1 : decode cX13_read 1 = .ok (.invokevirtual 135, 3) := by decide +kernel
theorem dX13_read_4 : decode cX13_read 4 = .ok (.aload_n 0, 1) := by decide +kernel
theorem dX13_read_5 : decode cX13_read 5 = .ok (.invokevirtual 317, 3) := by decide +kernel
theorem dX13_read_8 : decode cX13_read 8 = .ok (.aload_n 0, 1) := by decide +kernel
theorem dX13_read_9 : decode cX13_read 9 = .ok (.getfield 87, 3) := by decide +kernel
theorem dX13_read_12 : decode cX13_read 12 = .ok (.ifCond .eq 14, 3) := by decide +kernel
theorem dX13_read_15 : decode cX13_read 15 = .ok (.aload_n 0, 1) := by decide +kernel
theorem dX13_read_16 : decode cX13_read 16 = .ok (.aload_n 0, 1) := by decide +kernel
theorem dX13_read_17 : decode cX13_read 17 = .ok (.getfield 81, 3) := by decide +kernel
theorem dX13_read_20 : decode cX13_read 20 = .ok (.putfield 47, 3) := by decide +kernel
theorem dX13_read_23 : decode cX13_read 23 = .ok (.bipush (-2), 2) := by decide +kernel
theorem dX13_read_25 : decode cX13_read 25 = .ok (.ireturn, 1) := by decide +kernel
theorem dX13_read_26 : decode cX13_read 26 = .ok (.iconst 0, 1) := by decide +kernel
theorem dX13_read_27 : decode cX13_read 27 = .ok (.istore_n 1, 1) := by decide +kernel
theorem dX13_read_28 : decode cX13_read 28 = .ok (.iload_n 1, 1) := by decide +kernel
theorem dX13_read_29 : decode cX13_read 29 = .ok (.aload_n 0, 1) := by decide +kernel
theorem dX13_read_30 : decode cX13_read 30 = .ok (.getfield 84, 3) := by decide +kernel
theorem dX13_read_33 : decode cX13_read 33 = .ok (.if_icmp .ge 86, 3) := by decide +kernel
theorem dX13_read_36 : decode cX13_read 36 = .ok (.aload_n 0, 1) := by decide +kernel
theorem dX13_read_37 : decode cX13_read 37 = .ok (.iload_n 1, 1) := by decide +kernel
theorem dX13_read_38 : decode cX13_read 38 = .ok (.invokevirtual 320, 3) := by decide +kernel
theorem dX13_read_41 : decode cX13_read 41 = .ok (.ifCond .ne 6, 3) := by decide +kernel
theorem dX13_read_44 : decode cX13_read 44 = .ok (.goto 69, 3) := by decide +kernel
theorem dX13_read_47 : decode cX13_read 47 = .ok (.aload_n 0, 1) := by decide +kernel
theorem dX13_read_48 : decode cX13_read 48 = .ok (.getfield 13, 3) := by decide +kernel
theorem dX13_read_51 : decode cX13_read 51 = .ok (.iconst 0, 1) := by decide +kernel
theorem dX13_read_52 : decode cX13_read 52 = .ok (.aload_n 0, 1) := by decide +kernel
theorem dX13_read_53 : decode cX13_read 53 = .ok (.getfield 7, 3) := by decide +kernel
theorem dX13_read_56 : decode cX13_read 56 = .ok (.iconst 0, 1) := by decide +kernel
theorem dX13_read_57 : decode cX13_read 57 = .ok (.invokestatic 96, 3) := by decide +kernel
theorem dX13_read_60 : decode cX13_read 60 = .ok (.aload_n 0, 1) := by decide +kernel
theorem dX13_read_61 : decode cX13_read 61 = .ok (.aload_n 0, 1) := by decide +kernel
theorem dX13_read_62 : decode cX13_read 62 = .ok (.getfield 90, 3) := by decide +kernel
theorem dX13_read_65 : decode cX13_read 65 = .ok (.ifCond .eq 7, 3) := by decide +kernel
theorem dX13_read_68 : decode cX13_read 68 = .ok (.iconst 0, 1) := by decide +kernel
theorem dX13_read_69 : decode cX13_read 69 = .ok (.goto 7, 3) := by decide +kernel
theorem dX13_read_72 : decode cX13_read 72 = .ok (.aload_n 0, 1) := by decide +kernel
theorem dX13_read_73 : decode cX13_read 73 = .ok (.getfield 29, 3) := by decide +kernel
theorem dX13_read_76 : decode cX13_read 76 = .ok (.putfield 41, 3) := by decide +kernel
theorem dX13_read_79 : decode cX13_read 79 = .ok (.aload_n 0, 1) := by decide +kernel
theorem dX13_read_80 : decode cX13_read 80 = .ok (.aload_n 0, 1) := by decide +kernel
theorem dX13_read_81 : decode cX13_read 81 = .ok (.getfield 32, 3) := by decide +kernel
theorem dX13_read_84 : decode cX13_read 84 = .ok (.putfield 44, 3) := by decide +kernel
theorem dX13_read_87 : decode cX13_read 87 = .ok (.aload_n 0, 1) := by decide +kernel
theorem dX13_read_88 : decode cX13_read 88 = .ok (.aload_n 0, 1) := by decide +kernel
theorem dX13_read_89 : decode cX13_read 89 = .ok (.getfield 90, 3) := by decide +kernel
theorem dX13_read_92 : decode cX13_read 92 = .ok (.ifCond .eq 8, 3) := by decide +kernel
theorem dX13_read_95 : decode cX13_read 95 = .ok (.bipush 11, 2) := by decide +kernel
theorem dX13_read_97 : decode cX13_read 97 = .ok (.goto 5, 3) := by decide +kernel
theorem dX13_read_100 : decode cX13_read 100 = .ok (.bipush 10, 2) := by decide +kernel
theorem dX13_read_102 : decode cX13_read 102 = .ok (.putfield 35, 3) := by decide +kernel
theorem dX13_read_105 : decode cX13_read 105 = .ok (.aload_n 0, 1) := by decide +kernel
theorem dX13_read_106 : decode cX13_read 106 = .ok (.iload_n 1, 1) := by decide +kernel
theorem dX13_read_107 : decode cX13_read 107 = .ok (.putfield 38, 3) := by decide +kernel
theorem dX13_read_110 : decode cX13_read 110 = .ok (.bipush (-3), 2) := by decide +kernel
theorem dX13_read_112 : decode cX13_read 112 = .ok (.ireturn, 1) := by decide +kernel
theorem dX13_read_113 : decode cX13_read 113 = .ok (.iinc 1 1, 3) := by decide +kernel
theorem dX13_read_116 : decode cX13_read 116 = .ok (.goto (-88), 3) := by decide +kernel
theorem dX13_read_119 : decode cX13_read 119 = .ok (.aload_n 0, 1) := by decide +kernel
theorem dX13_read_120 : decode cX13_read 120 = .ok (.aload_n 0, 1) := by decide +kernel
theorem dX13_read_121 : decode cX13_read 121 = .ok (.getfield 84, 3) := by decide +kernel
theorem dX13_read_124 : decode cX13_read 124 = .ok (.invokevirtual 154, 3) := by decide +kernel
theorem dX13_read_127 : decode cX13_read 127 = .ok (.ireturn, 1) := by decide +kernel
theorem dX13_fault_0 : decode cX13_fault 0 = .ok (.aload_n 0, 1) := by decide +kernel
theorem dX13_fault_1 : decode cX13_fault 1 = .ok (.getfield 47, 3) := by decide +kernel
theorem dX13_fault_4 : decode cX13_fault 4 = .ok (.ifCond .ge 8, 3) := by decide +kernel
theorem dX13_fault_7 : decode cX13_fault 7 = .ok (.bipush (-4), 2) := by decide +kernel
theorem dX13_fault_9 : decode cX13_fault 9 = .ok (.goto 7, 3) := by decide +kernel
theorem dX13_fault_12 : decode cX13_fault 12 = .ok (.aload_n 0, 1) := by decide +kernel
theorem dX13_fault_13 : decode cX13_fault 13 = .ok (.getfield 47, 3) := by decide +kernel
theorem dX13_fault_16 : decode cX13_fault 16 = .ok (.ireturn, 1) := by decide +kernel
set_option maxRecDepth 20000 in
theorem ggX13_reason_X13_in : GoodIn wsX13_reason wsX13_in := goodIn_r _ [8] (by decide +kernel) (by decide +kernel)
set_option maxRecDepth 20000 in
theorem gX13_reason_X13_in : GoodIn wsX13_reason (va_wsS RX13 100 yX13_in wsX13_in) := goodIn_app (goodIn_of _ (by decide +kernel)) ggX13_reason_X13_in
theorem dX13_reason_0 : decode cX13_reason 0 = .ok (.iload_n 1, 1) := by decide +kernel
theorem dX13_reason_1 : decode cX13_reason 1 = .ok (.iconst 0, 1) := by decide +kernel
theorem dX13_reason_2 : decode cX13_reason 2 = .ok (.iconst 1, 1) := by decide +kernel
theorem dX13_reason_3 : decode cX13_reason 3 = .ok (.invokestatic 100, 3) := by decide +kernel
theorem dX13_reason_6 : decode cX13_reason 6 = .ok (.ifCond .ne 6, 3) := by decide +kernel
theorem dX13_reason_9 : decode cX13_reason 9 = .ok (.bipush (-2), 2) := by decide +kernel
theorem dX13_reason_11 : decode cX13_reason 11 = .ok (.ireturn, 1) := by decide +kernel
theorem dX13_reason_12 : decode cX13_reason 12 = .ok (.iload_n 1, 1) := by decide +kernel
theorem dX13_reason_13 : decode cX13_reason 13 = .ok (.iconst 1, 1) := by decide +kernel
theorem dX13_reason_14 : decode cX13_reason 14 = .ok (.if_icmp .ne 10, 3) := by decide +kernel
theorem dX13_reason_17 : decode cX13_reason 17 = .ok (.aload_n 0, 1) := by decide +kernel
theorem dX13_reason_18 : decode cX13_reason 18 = .ok (.getfield 41, 3) := by decide +kernel
theorem dX13_reason_21 : decode cX13_reason 21 = .ok (.goto 7, 3) := by decide +kernel
theorem dX13_reason_24 : decode cX13_reason 24 = .ok (.aload_n 0, 1) := by decide +kernel
theorem dX13_reason_25 : decode cX13_reason 25 = .ok (.getfield 35, 3) := by decide +kernel
theorem dX13_reason_28 : decode cX13_reason 28 = .ok (.istore_n 3, 1) := by decide +kernel
theorem dX13_reason_29 : decode cX13_reason 29 = .ok (.iload_n 3, 1) := by decide +kernel
theorem dX13_reason_30 : decode cX13_reason 30 = .ok (.ifCond .ne 6, 3) := by decide +kernel
theorem dX13_reason_33 : decode cX13_reason 33 = .ok (.bipush (-4), 2) := by decide +kernel
theorem dX13_reason_35 : decode cX13_reason 35 = .ok (.ireturn, 1) := by decide +kernel
theorem dX13_reason_36 : decode cX13_reason 36 = .ok (.iload_n 2, 1) := by decide +kernel
theorem dX13_reason_37 : decode cX13_reason 37 = .ok (.ifCond .ne 7, 3) := by decide +kernel
theorem dX13_reason_40 : decode cX13_reason 40 = .ok (.iload_n 3, 1) := by decide +kernel
theorem dX13_reason_41 : decode cX13_reason 41 = .ok (.goto 19, 3) := by decide +kernel
theorem dX13_reason_44 : decode cX13_reason 44 = .ok (.iload_n 1, 1) := by decide +kernel
theorem dX13_reason_45 : decode cX13_reason 45 = .ok (.iconst 1, 1) := by decide +kernel
theorem dX13_reason_46 : decode cX13_reason 46 = .ok (.if_icmp .ne 10, 3) := by decide +kernel
theorem dX13_reason_49 : decode cX13_reason 49 = .ok (.aload_n 0, 1) := by decide +kernel
theorem dX13_reason_50 : decode cX13_reason 50 = .ok (.getfield 44, 3) := by decide +kernel
theorem dX13_reason_53 : decode cX13_reason 53 = .ok (.goto 7, 3) := by decide +kernel
theorem dX13_reason_56 : decode cX13_reason 56 = .ok (.aload_n 0, 1) := by decide +kernel
theorem dX13_reason_57 : decode cX13_reason 57 = .ok (.getfield 38, 3) := by decide +kernel
theorem dX13_reason_60 : decode cX13_reason 60 = .ok (.ireturn, 1) := by decide +kernel
set_option maxRecDepth 20000 in
theorem ggX13_undo_X13_copies : GoodIn wsX13_undo wsX13_copies := goodIn_r _ [7] (by decide +kernel) (by decide +kernel)
set_option maxRecDepth 20000 in
theorem gX13_undo_X13_copies : GoodIn wsX13_undo (va_wsS RX13 96 yX13_copies wsX13_copies) := goodIn_app (goodIn_of _ (by decide +kernel)) ggX13_undo_X13_copies
theorem dX13_undo_0 : decode cX13_undo 0 = .ok (.aload_n 0, 1) := by decide +kernel
theorem dX13_undo_1 : decode cX13_undo 1 = .ok (.getfield 25, 3) := by decide +kernel
theorem dX13_undo_4 : decode cX13_undo 4 = .ok (.ifCond .ne 6, 3) := by decide +kernel
theorem dX13_undo_7 : decode cX13_undo 7 = .ok (.bipush (-4), 2) := by decide +kernel
theorem dX13_undo_9 : decode cX13_undo 9 = .ok (.ireturn, 1) := by decide +kernel
theorem dX13_undo_10 : decode cX13_undo 10 = .ok (.aload_n 0, 1) := by decide +kernel
theorem dX13_undo_11 : decode cX13_undo 11 = .ok (.dup, 1) := by decide +kernel
theorem dX13_undo_12 : decode cX13_undo 12 = .ok (.getfield 25, 3) := by decide +kernel
theorem dX13_undo_15 : decode cX13_undo 15 = .ok (.iconst 1, 1) := by decide +kernel
theorem dX13_undo_16 : decode cX13_undo 16 = .ok (.isub, 1) := by decide +kernel
theorem dX13_undo_17 : decode cX13_undo 17 = .ok (.putfield 25, 3) := by decide +kernel
theorem dX13_undo_20 : decode cX13_undo 20 = .ok (.aload_n 0, 1) := by decide +kernel
theorem dX13_undo_21 : decode cX13_undo 21 = .ok (.getfield 22, 3) := by decide +kernel
theorem dX13_undo_24 : decode cX13_undo 24 = .ok (.sipush 240, 3) := by decide +kernel
theorem dX13_undo_27 : decode cX13_undo 27 = .ok (.aload_n 0, 1) := by decide +kernel
theorem dX13_undo_28 : decode cX13_undo 28 = .ok (.getfield 25, 3) := by decide +kernel
theorem dX13_undo_31 : decode cX13_undo 31 = .ok (.imul, 1) := by decide +kernel
theorem dX13_undo_32 : decode cX13_undo 32 = .ok (.aload_n 0, 1) := by decide +kernel
theorem dX13_undo_33 : decode cX13_undo 33 = .ok (.getfield 7, 3) := by decide +kernel
theorem dX13_undo_36 : decode cX13_undo 36 = .ok (.iconst 0, 1) := by decide +kernel
theorem dX13_undo_37 : decode cX13_undo 37 = .ok (.invokestatic 96, 3) := by decide +kernel
theorem dX13_undo_40 : decode cX13_undo 40 = .ok (.aload_n 0, 1) := by decide +kernel
theorem dX13_undo_41 : decode cX13_undo 41 = .ok (.getfield 25, 3) := by decide +kernel
theorem dX13_undo_44 : decode cX13_undo 44 = .ok (.ireturn, 1) := by decide +kernel
set_option maxRecDepth 20000 in
theorem ggX13_save_X13_copies : GoodIn wsX13_save wsX13_copies := goodIn_r _ [7] (by decide +kernel) (by decide +kernel)
set_option maxRecDepth 20000 in
theorem gX13_save_X13_copies : GoodIn wsX13_save (va_wsS RX13 96 yX13_copies wsX13_copies) := goodIn_app (goodIn_of _ (by decide +kernel)) ggX13_save_X13_copies
set_option maxRecDepth 20000 in
theorem ggX13_save_X13_allPlants : GoodIn wsX13_save wsX13_allPlants := goodIn_r _ [11, 12, 13, 14, 6, 15, 1, 16, 17, 18, 19, 20, 21, 22, 23, 24, 25, 26, 27, 28, 29, 30, 31, 32, 33, 34, 35, 36, 37, 38, 39, 40, 41, 42] (by decide +kernel) (by decide +kernel)
set_option maxRecDepth 20000 in
theorem gX13_save_X13_allPlants : GoodIn wsX13_save (wsV RX13 128 RX13 yX13_allPlants wsX13_allPlants) := goodIn_app (goodIn_of _ (by decide +kernel)) ggX13_save_X13_allPlants
theorem dX13_save_0 : decode cX13_save 0 = .ok (.aload_n 0, 1) := by decide +kernel
theorem dX13_save_1 : decode cX13_save 1 = .ok (.getfield 7, 3) := by decide +kernel
theorem dX13_save_4 : decode cX13_save 4 = .ok (.iconst 0, 1) := by decide +kernel
theorem dX13_save_5 : decode cX13_save 5 = .ok (.aload_n 0, 1) := by decide +kernel
theorem dX13_save_6 : decode cX13_save 6 = .ok (.getfield 19, 3) := by decide +kernel
theorem dX13_save_9 : decode cX13_save 9 = .ok (.iconst 0, 1) := by decide +kernel
theorem dX13_save_10 : decode cX13_save 10 = .ok (.invokestatic 96, 3) := by decide +kernel
theorem dX13_save_13 : decode cX13_save 13 = .ok (.aload_n 0, 1) := by decide +kernel
theorem dX13_save_14 : decode cX13_save 14 = .ok (.iconst 1, 1) := by decide +kernel
theorem dX13_save_15 : decode cX13_save 15 = .ok (.putfield 50, 3) := by decide +kernel
theorem dX13_save_18 : decode cX13_save 18 = .ok (.aload_n 0, 1) := by decide +kernel
theorem dX13_save_19 : decode cX13_save 19 = .ok (.invokevirtual 128, 3) := by decide +kernel
theorem dX13_save_22 : decode cX13_save 22 = .ok (.ireturn, 1) := by decide +kernel
set_option maxRecDepth 20000 in
theorem ggX13_restore_X13_copies : GoodIn wsX13_restore wsX13_copies := goodIn_r _ [8] (by decide +kernel) (by decide +kernel)
set_option maxRecDepth 20000 in
theorem gX13_restore_X13_copies : GoodIn wsX13_restore (va_wsS RX13 96 yX13_copies wsX13_copies) := goodIn_app (goodIn_of _ (by decide +kernel)) ggX13_restore_X13_copies
set_option maxRecDepth 20000 in
theorem ggX13_restore_X13_allPlants : GoodIn wsX13_restore wsX13_allPlants := goodIn_r _ [12, 13, 14, 15, 7, 16, 3, 17, 18, 19, 20, 21, 22, 23, 24, 25, 26, 27, 28, 29, 30, 31, 32, 33, 34, 35, 36, 37, 38, 39, 40, 41, 42, 43] (by decide +kernel) (by decide +kernel)
set_option maxRecDepth 20000 in
theorem gX13_restore_X13_allPlants : GoodIn wsX13_restore (wsV RX13 128 RX13 yX13_allPlants wsX13_allPlants) := goodIn_app (goodIn_of _ (by decide +kernel)) ggX13_restore_X13_allPlants
theorem dX13_restore_0 : decode cX13_restore 0 = .ok (.aload_n 0, 1) := by decide +kernel
theorem dX13_restore_1 : decode cX13_restore 1 = .ok (.getfield 50, 3) := by decide +kernel
theorem dX13_restore_4 : decode cX13_restore 4 = .ok (.ifCond .ne 6, 3) := by decide +kernel
theorem dX13_restore_7 : decode cX13_restore 7 = .ok (.bipush (-4), 2) := by decide +kernel
theorem dX13_restore_9 : decode cX13_restore 9 = .ok (.ireturn, 1) := by decide +kernel
theorem dX13_restore_10 : decode cX13_restore 10 = .ok (.aload_n 0, 1) := by decide +kernel
theorem dX13_restore_11 : decode cX13_restore 11 = .ok (.getfield 19, 3) := by decide +kernel
theorem dX13_restore_14 : decode cX13_restore 14 = .ok (.iconst 0, 1) := by decide +kernel
theorem dX13_restore_15 : decode cX13_restore 15 = .ok (.aload_n 0, 1) := by decide +kernel
theorem dX13_restore_16 : decode cX13_restore 16 = .ok (.getfield 7, 3) := by decide +kernel
theorem dX13_restore_19 : decode cX13_restore 19 = .ok (.iconst 0, 1) := by decide +kernel
theorem dX13_restore_20 : decode cX13_restore 20 = .ok (.invokestatic 96, 3) := by decide +kernel
theorem dX13_restore_23 : decode cX13_restore 23 = .ok (.aload_n 0, 1) := by decide +kernel
theorem dX13_restore_24 : decode cX13_restore 24 = .ok (.iconst 0, 1) := by decide +kernel
theorem dX13_restore_25 : decode cX13_restore 25 = .ok (.putfield 25, 3) := by decide +kernel
theorem dX13_restore_28 : decode cX13_restore 28 = .ok (.aload_n 0, 1) := by decide +kernel
theorem dX13_restore_29 : decode cX13_restore 29 = .ok (.invokevirtual 128, 3) := by decide +kernel
theorem dX13_restore_32 : decode cX13_restore 32 = .ok (.ireturn, 1) := by decide +kernel
