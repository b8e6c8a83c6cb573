theorem dX0_init_0 : decode cX0_init 0 = .ok (.aload_n 0, 1) := by decide +kernel
theorem dX0_init_1 : decode cX0_init 1 = .ok (.invokespecial 1, 3) := by decide +kernel
theorem dX0_init_4 : decode cX0_init 4 = .ok (.aload_n 0, 1) := by decide +kernel
theorem dX0_init_5 : decode cX0_init 5 = .ok (.iconst 4, 1) := by decide +kernel
theorem dX0_init_6 : decode cX0_init 6 = .ok (.newarray .boolean, 2) := by decide +kernel
theorem dX0_init_8 : decode cX0_init 8 = .ok (.putfield 9, 3) := by decide +kernel
theorem dX0_init_11 : decode cX0_init 11 = .ok (.aload_n 0, 1) := by decide +kernel
theorem dX0_init_12 : decode cX0_init 12 = .ok (.bipush 16, 2) := by decide +kernel
theorem dX0_init_14 : decode cX0_init 14 = .ok (.newarray .boolean, 2) := by decide +kernel
theorem dX0_init_16 : decode cX0_init 16 = .ok (.putfield 13, 3) := by decide +kernel
theorem dX0_init_19 : decode cX0_init 19 = .ok (.aload_n 0, 1) := by decide +kernel
theorem dX0_init_20 : decode cX0_init 20 = .ok (.bipush 8, 2) := by decide +kernel
theorem dX0_init_22 : decode cX0_init 22 = .ok (.newarray .boolean, 2) := by decide +kernel
theorem dX0_init_24 : decode cX0_init 24 = .ok (.putfield 16, 3) := by decide +kernel
theorem dX0_init_27 : decode cX0_init 27 = .ok (.aload_n 0, 1) := by decide +kernel
theorem dX0_init_28 : decode cX0_init 28 = .ok (.bipush 8, 2) := by decide +kernel
theorem dX0_init_30 : decode cX0_init 30 = .ok (.newarray .int, 2) := by decide +kernel
theorem dX0_init_32 : decode cX0_init 32 = .ok (.putfield 19, 3) := by decide +kernel
theorem dX0_init_35 : decode cX0_init 35 = .ok (.aload_n 0, 1) := by decide +kernel
theorem dX0_init_36 : decode cX0_init 36 = .ok (.iconst 3, 1) := by decide +kernel
theorem dX0_init_37 : decode cX0_init 37 = .ok (.newarray .int, 2) := by decide +kernel
theorem dX0_init_39 : decode cX0_init 39 = .ok (.putfield 23, 3) := by decide +kernel
theorem dX0_init_42 : decode cX0_init 42 = .ok (.aload_n 0, 1) := by decide +kernel
theorem dX0_init_43 : decode cX0_init 43 = .ok (.iconst 3, 1) := by decide +kernel
theorem dX0_init_44 : decode cX0_init 44 = .ok (.newarray .boolean, 2) := by decide +kernel
theorem dX0_init_46 : decode cX0_init 46 = .ok (.putfield 26, 3) := by decide +kernel
theorem dX0_init_49 : decode cX0_init 49 = .ok (.aload_n 0, 1) := by decide +kernel
theorem dX0_init_50 : decode cX0_init 50 = .ok (.iconst 3, 1) := by decide +kernel
theorem dX0_init_51 : decode cX0_init 51 = .ok (.newarray .int, 2) := by decide +kernel
theorem dX0_init_53 : decode cX0_init 53 = .ok (.putfield 29, 3) := by decide +kernel
theorem dX0_init_56 : decode cX0_init 56 = .ok (.aload_n 0, 1) := by decide +kernel
theorem dX0_init_57 : decode cX0_init 57 = .ok (.iconst 3, 1) := by decide +kernel
theorem dX0_init_58 : decode cX0_init 58 = .ok (.newarray .int, 2) := by decide +kernel
theorem dX0_init_60 : decode cX0_init 60 = .ok (.putfield 32, 3) := by decide +kernel
theorem dX0_init_63 : decode cX0_init 63 = .ok (.aload_n 0, 1) := by decide +kernel
theorem dX0_init_64 : decode cX0_init 64 = .ok (.iconst 3, 1) := by decide +kernel
theorem dX0_init_65 : decode cX0_init 65 = .ok (.newarray .int, 2) := by decide +kernel
theorem dX0_init_67 : decode cX0_init 67 = .ok (.putfield 35, 3) := by decide +kernel
theorem dX0_init_70 : decode cX0_init 70 = .ok (.aload_n 0, 1) := by decide +kernel
theorem dX0_init_71 : decode cX0_init 71 = .ok (.bipush 12, 2) := by decide +kernel
theorem dX0_init_73 : decode cX0_init 73 = .ok (.newarray .int, 2) := by decide +kernel
theorem dX0_init_75 : decode cX0_init 75 = .ok (.putfield 38, 3) := by decide +kernel
theorem dX0_init_78 : decode cX0_init 78 = .ok (.aload_n 0, 1) := by decide +kernel
theorem dX0_init_79 : decode cX0_init 79 = .ok (.bipush 12, 2) := by decide +kernel
theorem dX0_init_81 : decode cX0_init 81 = .ok (.newarray .int, 2) := by decide +kernel
theorem dX0_init_83 : decode cX0_init 83 = .ok (.putfield 41, 3) := by decide +kernel
theorem dX0_init_86 : decode cX0_init 86 = .ok (.aload_n 0, 1) := by decide +kernel
theorem dX0_init_87 : decode cX0_init 87 = .ok (.bipush 12, 2) := by decide +kernel
theorem dX0_init_89 : decode cX0_init 89 = .ok (.newarray .int, 2) := by decide +kernel
theorem dX0_init_91 : decode cX0_init 91 = .ok (.putfield 44, 3) := by decide +kernel
theorem dX0_init_94 : decode cX0_init 94 = .ok (.aload_n 0, 1) := by decide +kernel
theorem dX0_init_95 : decode cX0_init 95 = .ok (.bipush 12, 2) := by decide +kernel
theorem dX0_init_97 : decode cX0_init 97 = .ok (.newarray .int, 2) := by decide +kernel
theorem dX0_init_99 : decode cX0_init 99 = .ok (.putfield 47, 3) := by decide +kernel
theorem dX0_init_102 : decode cX0_init 102 = .ok (.aload_n 0, 1) := by decide +kernel
theorem dX0_init_103 : decode cX0_init 103 = .ok (.bipush 12, 2) := by decide +kernel
theorem dX0_init_105 : decode cX0_init 105 = .ok (.newarray .int, 2) := by decide +kernel
theorem dX0_init_107 : decode cX0_init 107 = .ok (.putfield 50, 3) := by decide +kernel
theorem dX0_init_110 : decode cX0_init 110 = .ok (.aload_n 0, 1) := by decide +kernel
theorem dX0_init_111 : decode cX0_init 111 = .ok (.bipush 12, 2) := by decide +kernel
theorem dX0_init_113 : decode cX0_init 113 = .ok (.newarray .int, 2) := by decide +kernel
theorem dX0_init_115 : decode cX0_init 115 = .ok (.putfield 53, 3) := by decide +kernel
theorem dX0_init_118 : decode cX0_init 118 = .ok (.aload_n 0, 1) := by decide +kernel
theorem dX0_init_119 : decode cX0_init 119 = .ok (.bipush 12, 2) := by decide +kernel
theorem dX0_init_121 : decode cX0_init 121 = .ok (.newarray .boolean, 2) := by decide +kernel
theorem dX0_init_123 : decode cX0_init 123 = .ok (.putfield 56, 3) := by decide +kernel
theorem dX0_init_126 : decode cX0_init 126 = .ok (.iconst 0, 1) := by decide +kernel
theorem dX0_init_127 : decode cX0_init 127 = .ok (.istore_n 1, 1) := by decide +kernel
theorem dX0_init_128 : decode cX0_init 128 = .ok (.iload_n 1, 1) := by decide +kernel
theorem dX0_init_129 : decode cX0_init 129 = .ok (.iconst 4, 1) := by decide +kernel
theorem dX0_init_130 : decode cX0_init 130 = .ok (.if_icmp .ge 16, 3) := by decide +kernel
theorem dX0_init_133 : decode cX0_init 133 = .ok (.aload_n 0, 1) := by decide +kernel
theorem dX0_init_134 : decode cX0_init 134 = .ok (.getfield 9, 3) := by decide +kernel
theorem dX0_init_137 : decode cX0_init 137 = .ok (.iload_n 1, 1) := by decide +kernel
theorem dX0_init_138 : decode cX0_init 138 = .ok (.iconst 1, 1) := by decide +kernel
theorem dX0_init_139 : decode cX0_init 139 = .ok (.bastore, 1) := by decide +kernel
theorem dX0_init_140 : decode cX0_init 140 = .ok (.iinc 1 1, 3) := by decide +kernel
theorem dX0_init_143 : decode cX0_init 143 = .ok (.goto (-15), 3) := by decide +kernel
theorem dX0_init_146 : decode cX0_init 146 = .ok (.iconst 0, 1) := by decide +kernel
theorem dX0_init_147 : decode cX0_init 147 = .ok (.istore_n 1, 1) := by decide +kernel
theorem dX0_init_148 : decode cX0_init 148 = .ok (.iload_n 1, 1) := by decide +kernel
theorem dX0_init_149 : decode cX0_init 149 = .ok (.bipush 16, 2) := by decide +kernel
theorem dX0_init_151 : decode cX0_init 151 = .ok (.if_icmp .ge 16, 3) := by decide +kernel
theorem dX0_init_154 : decode cX0_init 154 = .ok (.aload_n 0, 1) := by decide +kernel
theorem dX0_init_155 : decode cX0_init 155 = .ok (.getfield 13, 3) := by decide +kernel
theorem dX0_init_158 : decode cX0_init 158 = .ok (.iload_n 1, 1) := by decide +kernel
theorem dX0_init_159 : decode cX0_init 159 = .ok (.iconst 1, 1) := by decide +kernel
theorem dX0_init_160 : decode cX0_init 160 = .ok (.bastore, 1) := by decide +kernel
theorem dX0_init_161 : decode cX0_init 161 = .ok (.iinc 1 1, 3) := by decide +kernel
theorem dX0_init_164 : decode cX0_init 164 = .ok (.goto (-16), 3) := by decide +kernel
theorem dX0_init_167 : decode cX0_init 167 = .ok (.iconst 0, 1) := by decide +kernel
theorem dX0_init_168 : decode cX0_init 168 = .ok (.istore_n 1, 1) := by decide +kernel
theorem dX0_init_169 : decode cX0_init 169 = .ok (.iload_n 1, 1) := by decide +kernel
theorem dX0_init_170 : decode cX0_init 170 = .ok (.bipush 8, 2) := by decide +kernel
theorem dX0_init_172 : decode cX0_init 172 = .ok (.if_icmp .ge 16, 3) := by decide +kernel
theorem dX0_init_175 : decode cX0_init 175 = .ok (.aload_n 0, 1) := by decide +kernel
theorem dX0_init_176 : decode cX0_init 176 = .ok (.getfield 16, 3) := by decide +kernel
theorem dX0_init_179 : decode cX0_init 179 = .ok (.iload_n 1, 1) := by decide +kernel
theorem dX0_init_180 : decode cX0_init 180 = .ok (.iconst 1, 1) := by decide +kernel
theorem dX0_init_181 : decode cX0_init 181 = .ok (.bastore, 1) := by decide +kernel
theorem dX0_init_182 : decode cX0_init 182 = .ok (.iinc 1 1, 3) := by decide +kernel
theorem dX0_init_185 : decode cX0_init 185 = .ok (.goto (-16), 3) := by decide +kernel
theorem dX0_init_188 : decode cX0_init 188 = .ok (.iconst 0, 1) := by decide +kernel
theorem dX0_init_189 : decode cX0_init 189 = .ok (.istore_n 1, 1) := by decide +kernel
theorem dX0_init_190 : decode cX0_init 190 = .ok (.iload_n 1, 1) := by decide +kernel
theorem dX0_init_191 : decode cX0_init 191 = .ok (.iconst 3, 1) := by decide +kernel
theorem dX0_init_192 : decode cX0_init 192 = .ok (.if_icmp .ge 23, 3) := by decide +kernel
theorem dX0_init_195 : decode cX0_init 195 = .ok (.aload_n 0, 1) := by decide +kernel
theorem dX0_init_196 : decode cX0_init 196 = .ok (.getfield 23, 3) := by decide +kernel
theorem dX0_init_199 : decode cX0_init 199 = .ok (.iload_n 1, 1) := by decide +kernel
theorem dX0_init_200 : decode cX0_init 200 = .ok (.iconst 4, 1) := by decide +kernel
theorem dX0_init_201 : decode cX0_init 201 = .ok (.iastore, 1) := by decide +kernel
theorem dX0_init_202 : decode cX0_init 202 = .ok (.aload_n 0, 1) := by decide +kernel
theorem dX0_init_203 : decode cX0_init 203 = .ok (.getfield 26, 3) := by decide +kernel
theorem dX0_init_206 : decode cX0_init 206 = .ok (.iload_n 1, 1) := by decide +kernel
theorem dX0_init_207 : decode cX0_init 207 = .ok (.iconst 1, 1) := by decide +kernel
theorem dX0_init_208 : decode cX0_init 208 = .ok (.bastore, 1) := by decide +kernel
theorem dX0_init_209 : decode cX0_init 209 = .ok (.iinc 1 1, 3) := by decide +kernel
theorem dX0_init_212 : decode cX0_init 212 = .ok (.goto (-22), 3) := by decide +kernel
theorem dX0_init_215 : decode cX0_init 215 = .ok (.return_, 1) := by decide +kernel
set_option maxRecDepth 20000 in
theorem ggX0_setPriority_X0_checkRouter : GoodIn wsX0_setPriority wsX0_checkRouter := goodIn_ca (goodIn_r _ [7, 8, 9] (by decide +kernel) (by decide +kernel)) (goodIn_sub (fun _ h => List.mem_cons_of_mem _ (List.mem_append_right _ h)) (by decide +kernel))
set_option maxRecDepth 20000 in
theorem gX0_setPriority_X0_checkRouter : GoodIn wsX0_setPriority (va_wsS RX0 59 yX0_checkRouter wsX0_checkRouter) := goodIn_app (goodIn_of _ (by decide +kernel)) ggX0_setPriority_X0_checkRouter
set_option maxRecDepth 20000 in
theorem ggX0_setPriority_X0_checkGroup : GoodIn wsX0_setPriority wsX0_checkGroup := goodIn_ca (goodIn_r _ [12, 8, 9] (by decide +kernel) (by decide +kernel)) (goodIn_sub (fun _ h => List.mem_cons_of_mem _ (List.mem_append_right _ h)) (by decide +kernel))
set_option maxRecDepth 20000 in
theorem gX0_setPriority_X0_checkGroup : GoodIn wsX0_setPriority (va_wsS RX0 63 yX0_checkGroup wsX0_checkGroup) := goodIn_app (goodIn_of _ (by decide +kernel)) ggX0_setPriority_X0_checkGroup
set_option maxRecDepth 20000 in
theorem ggX0_setPriority_X0_checkRange : GoodIn wsX0_setPriority wsX0_checkRange := goodIn_ca (goodIn_r _ [15, 8, 9] (by decide +kernel) (by decide +kernel)) (goodIn_sub (fun _ h => List.mem_cons_of_mem _ (List.mem_append_right _ h)) (by decide +kernel))
set_option maxRecDepth 20000 in
theorem gX0_setPriority_X0_checkRange : GoodIn wsX0_setPriority (va_wsS RX0 66 yX0_checkRange wsX0_checkRange) := goodIn_app (goodIn_of _ (by decide +kernel)) ggX0_setPriority_X0_checkRange
set_option maxRecDepth 20000 in
theorem ggX0_setPriority_X0_placeOf : GoodIn wsX0_setPriority wsX0_placeOf := goodIn_r _ [18] (by decide +kernel) (by decide +kernel)
set_option maxRecDepth 20000 in
theorem gX0_setPriority_X0_placeOf : GoodIn wsX0_setPriority (va_wsS RX0 70 yX0_placeOf wsX0_placeOf) := goodIn_app (goodIn_of _ (by decide +kernel)) ggX0_setPriority_X0_placeOf
set_option maxRecDepth 20000 in
theorem ggX0_setPriority_X0_advertise : GoodIn wsX0_setPriority wsX0_advertise := goodIn_r _ [22, 23, 24, 2, 16, 17, 6, 18, 25, 26, 27, 28, 29, 30, 31, 32, 1, 33, 34, 35, 36, 37, 38, 39, 40, 41, 42, 43, 44, 45, 46, 47, 48, 49, 50, 51, 52, 53, 54, 55, 56, 57, 58, 59, 60, 61, 62, 63, 64, 65, 66, 67, 68, 69, 74, 75, 76, 77, 78, 79, 80, 81, 82, 83, 84, 85, 86, 87, 88, 89, 90, 91] (by decide +kernel) (by decide +kernel)
set_option maxRecDepth 20000 in
theorem gX0_setPriority_X0_advertise : GoodIn wsX0_setPriority (wsV RX0 74 RX0 yX0_advertise wsX0_advertise) := goodIn_app (goodIn_of _ (by decide +kernel)) ggX0_setPriority_X0_advertise
set_option maxRecDepth 20000 in
theorem ggX0_setPriority_X0_beginPart : GoodIn wsX0_setPriority wsX0_beginPart := goodIn_r _ [73, 62, 42, 43, 44, 6, 45, 2, 46, 47, 16, 17, 18, 29, 30, 31, 32, 1, 33, 34, 35, 36, 37, 38, 39, 40, 41, 48, 49, 50, 51, 52, 53, 54, 55, 56, 74, 75, 76, 77, 78, 79, 80, 81, 82, 83, 84, 85, 86, 87, 88, 89, 90, 91] (by decide +kernel) (by decide +kernel)
set_option maxRecDepth 20000 in
theorem gX0_setPriority_X0_beginPart : GoodIn wsX0_setPriority (wsV RX0 77 RX0 yX0_beginPart wsX0_beginPart) := goodIn_app (goodIn_of _ (by decide +kernel)) ggX0_setPriority_X0_beginPart
theorem dX0_setPriority_0 : decode cX0_setPriority 0 = .ok (.iload_n 1, 1) := by decide +kernel
theorem dX0_setPriority_1 : decode cX0_setPriority 1 = .ok (.invokestatic 59, 3) := by decide +kernel
theorem dX0_setPriority_4 : decode cX0_setPriority 4 = .ok (.iload_n 2, 1) := by decide +kernel
theorem dX0_setPriority_5 : decode cX0_setPriority 5 = .ok (.invokestatic 63, 3) := by decide +kernel
theorem dX0_setPriority_8 : decode cX0_setPriority 8 = .ok (.iload_n 3, 1) := by decide +kernel
theorem dX0_setPriority_9 : decode cX0_setPriority 9 = .ok (.iconst 0, 1) := by decide +kernel
theorem dX0_setPriority_10 : decode cX0_setPriority 10 = .ok (.sipush 254, 3) := by decide +kernel
theorem dX0_setPriority_13 : decode cX0_setPriority 13 = .ok (.invokestatic 66, 3) := by decide +kernel
theorem dX0_setPriority_16 : decode cX0_setPriority 16 = .ok (.iload_n 1, 1) := by decide +kernel
theorem dX0_setPriority_17 : decode cX0_setPriority 17 = .ok (.iload_n 2, 1) := by decide +kernel
theorem dX0_setPriority_18 : decode cX0_setPriority 18 = .ok (.invokestatic 70, 3) := by decide +kernel
theorem dX0_setPriority_21 : decode cX0_setPriority 21 = .ok (.istore 4, 2) := by decide +kernel
theorem dX0_setPriority_23 : decode cX0_setPriority 23 = .ok (.aload_n 0, 1) := by decide +kernel
theorem dX0_setPriority_24 : decode cX0_setPriority 24 = .ok (.getfield 38, 3) := by decide +kernel
theorem dX0_setPriority_27 : decode cX0_setPriority 27 = .ok (.iload 4, 2) := by decide +kernel
theorem dX0_setPriority_29 : decode cX0_setPriority 29 = .ok (.iaload, 1) := by decide +kernel
theorem dX0_setPriority_30 : decode cX0_setPriority 30 = .ok (.istore 5, 2) := by decide +kernel
theorem dX0_setPriority_32 : decode cX0_setPriority 32 = .ok (.iload_n 3, 1) := by decide +kernel
theorem dX0_setPriority_33 : decode cX0_setPriority 33 = .ok (.ifCond .ne 21, 3) := by decide +kernel
theorem dX0_setPriority_36 : decode cX0_setPriority 36 = .ok (.aload_n 0, 1) := by decide +kernel
theorem dX0_setPriority_37 : decode cX0_setPriority 37 = .ok (.getfield 41, 3) := by decide +kernel
theorem dX0_setPriority_40 : decode cX0_setPriority 40 = .ok (.iload 4, 2) := by decide +kernel
theorem dX0_setPriority_42 : decode cX0_setPriority 42 = .ok (.iaload, 1) := by decide +kernel
theorem dX0_setPriority_43 : decode cX0_setPriority 43 = .ok (.iconst 2, 1) := by decide +kernel
theorem dX0_setPriority_44 : decode cX0_setPriority 44 = .ok (.if_icmp .ne 10, 3) := by decide +kernel
theorem dX0_setPriority_47 : decode cX0_setPriority 47 = .ok (.aload_n 0, 1) := by decide +kernel
theorem dX0_setPriority_48 : decode cX0_setPriority 48 = .ok (.iload_n 1, 1) := by decide +kernel
theorem dX0_setPriority_49 : decode cX0_setPriority 49 = .ok (.iload_n 2, 1) := by decide +kernel
theorem dX0_setPriority_50 : decode cX0_setPriority 50 = .ok (.iconst 0, 1) := by decide +kernel
theorem dX0_setPriority_51 : decode cX0_setPriority 51 = .ok (.invokevirtual 74, 3) := by decide +kernel
theorem dX0_setPriority_54 : decode cX0_setPriority 54 = .ok (.aload_n 0, 1) := by decide +kernel
theorem dX0_setPriority_55 : decode cX0_setPriority 55 = .ok (.getfield 38, 3) := by decide +kernel
theorem dX0_setPriority_58 : decode cX0_setPriority 58 = .ok (.iload 4, 2) := by decide +kernel
theorem dX0_setPriority_60 : decode cX0_setPriority 60 = .ok (.iload_n 3, 1) := by decide +kernel
theorem dX0_setPriority_61 : decode cX0_setPriority 61 = .ok (.iastore, 1) := by decide +kernel
theorem dX0_setPriority_62 : decode cX0_setPriority 62 = .ok (.iload_n 3, 1) := by decide +kernel
theorem dX0_setPriority_63 : decode cX0_setPriority 63 = .ok (.ifCond .ne 14, 3) := by decide +kernel
theorem dX0_setPriority_66 : decode cX0_setPriority 66 = .ok (.aload_n 0, 1) := by decide +kernel
theorem dX0_setPriority_67 : decode cX0_setPriority 67 = .ok (.getfield 41, 3) := by decide +kernel
theorem dX0_setPriority_70 : decode cX0_setPriority 70 = .ok (.iload 4, 2) := by decide +kernel
theorem dX0_setPriority_72 : decode cX0_setPriority 72 = .ok (.iconst 0, 1) := by decide +kernel
theorem dX0_setPriority_73 : decode cX0_setPriority 73 = .ok (.iastore, 1) := by decide +kernel
theorem dX0_setPriority_74 : decode cX0_setPriority 74 = .ok (.goto 28, 3) := by decide +kernel
theorem dX0_setPriority_77 : decode cX0_setPriority 77 = .ok (.aload_n 0, 1) := by decide +kernel
theorem dX0_setPriority_78 : decode cX0_setPriority 78 = .ok (.getfield 9, 3) := by decide +kernel
theorem dX0_setPriority_81 : decode cX0_setPriority 81 = .ok (.iload_n 1, 1) := by decide +kernel
theorem dX0_setPriority_82 : decode cX0_setPriority 82 = .ok (.baload, 1) := by decide +kernel
theorem dX0_setPriority_83 : decode cX0_setPriority 83 = .ok (.ifCond .eq 19, 3) := by decide +kernel
theorem dX0_setPriority_86 : decode cX0_setPriority 86 = .ok (.aload_n 0, 1) := by decide +kernel
theorem dX0_setPriority_87 : decode cX0_setPriority 87 = .ok (.getfield 41, 3) := by decide +kernel
theorem dX0_setPriority_90 : decode cX0_setPriority 90 = .ok (.iload 4, 2) := by decide +kernel
theorem dX0_setPriority_92 : decode cX0_setPriority 92 = .ok (.iaload, 1) := by decide +kernel
theorem dX0_setPriority_93 : decode cX0_setPriority 93 = .ok (.ifCond .ne 9, 3) := by decide +kernel
theorem dX0_setPriority_96 : decode cX0_setPriority 96 = .ok (.aload_n 0, 1) := by decide +kernel
theorem dX0_setPriority_97 : decode cX0_setPriority 97 = .ok (.iload_n 1, 1) := by decide +kernel
theorem dX0_setPriority_98 : decode cX0_setPriority 98 = .ok (.iload_n 2, 1) := by decide +kernel
theorem dX0_setPriority_99 : decode cX0_setPriority 99 = .ok (.invokevirtual 77, 3) := by decide +kernel
theorem dX0_setPriority_102 : decode cX0_setPriority 102 = .ok (.iload 5, 2) := by decide +kernel
theorem dX0_setPriority_104 : decode cX0_setPriority 104 = .ok (.ireturn, 1) := by decide +kernel
set_option maxRecDepth 20000 in
theorem ggX0_track_X0_checkRouter : GoodIn wsX0_track wsX0_checkRouter := goodIn_ca (goodIn_r _ [5, 6, 7] (by decide +kernel) (by decide +kernel)) (goodIn_sub (fun _ h => List.mem_cons_of_mem _ (List.mem_append_right _ h)) (by decide +kernel))
set_option maxRecDepth 20000 in
theorem gX0_track_X0_checkRouter : GoodIn wsX0_track (va_wsS RX0 59 yX0_checkRouter wsX0_checkRouter) := goodIn_app (goodIn_of _ (by decide +kernel)) ggX0_track_X0_checkRouter
set_option maxRecDepth 20000 in
theorem ggX0_track_X0_checkLink : GoodIn wsX0_track wsX0_checkLink := goodIn_ca (goodIn_r _ [10, 6, 7] (by decide +kernel) (by decide +kernel)) (goodIn_sub (fun _ h => List.mem_cons_of_mem _ (List.mem_append_right _ h)) (by decide +kernel))
set_option maxRecDepth 20000 in
theorem gX0_track_X0_checkLink : GoodIn wsX0_track (va_wsS RX0 81 yX0_checkLink wsX0_checkLink) := goodIn_app (goodIn_of _ (by decide +kernel)) ggX0_track_X0_checkLink
set_option maxRecDepth 20000 in
theorem ggX0_track_X0_checkRange : GoodIn wsX0_track wsX0_checkRange := goodIn_ca (goodIn_r _ [13, 6, 7] (by decide +kernel) (by decide +kernel)) (goodIn_sub (fun _ h => List.mem_cons_of_mem _ (List.mem_append_right _ h)) (by decide +kernel))
set_option maxRecDepth 20000 in
theorem gX0_track_X0_checkRange : GoodIn wsX0_track (va_wsS RX0 66 yX0_checkRange wsX0_checkRange) := goodIn_app (goodIn_of _ (by decide +kernel)) ggX0_track_X0_checkRange
set_option maxRecDepth 20000 in
theorem ggX0_track_X0_linkOf : GoodIn wsX0_track wsX0_linkOf := goodIn_r _ [16] (by decide +kernel) (by decide +kernel)
set_option maxRecDepth 20000 in
theorem gX0_track_X0_linkOf : GoodIn wsX0_track (va_wsS RX0 84 yX0_linkOf wsX0_linkOf) := goodIn_app (goodIn_of _ (by decide +kernel)) ggX0_track_X0_linkOf
theorem dX0_track_0 : decode cX0_track 0 = .ok (.iload_n 1, 1) := by decide +kernel
theorem dX0_track_1 : decode cX0_track 1 = .ok (.invokestatic 59, 3) := by decide +kernel
theorem dX0_track_4 : decode cX0_track 4 = .ok (.iload_n 2, 1) := by decide +kernel
theorem dX0_track_5 : decode cX0_track 5 = .ok (.invokestatic 81, 3) := by decide +kernel
theorem dX0_track_8 : decode cX0_track 8 = .ok (.iload_n 3, 1) := by decide +kernel
theorem dX0_track_9 : decode cX0_track 9 = .ok (.iconst 0, 1) := by decide +kernel
theorem dX0_track_10 : decode cX0_track 10 = .ok (.bipush 100, 2) := by decide +kernel
theorem dX0_track_12 : decode cX0_track 12 = .ok (.invokestatic 66, 3) := by decide +kernel
theorem dX0_track_15 : decode cX0_track 15 = .ok (.iload_n 1, 1) := by decide +kernel
theorem dX0_track_16 : decode cX0_track 16 = .ok (.iload_n 2, 1) := by decide +kernel
theorem dX0_track_17 : decode cX0_track 17 = .ok (.invokestatic 84, 3) := by decide +kernel
theorem dX0_track_20 : decode cX0_track 20 = .ok (.istore 4, 2) := by decide +kernel
theorem dX0_track_22 : decode cX0_track 22 = .ok (.aload_n 0, 1) := by decide +kernel
theorem dX0_track_23 : decode cX0_track 23 = .ok (.getfield 19, 3) := by decide +kernel
theorem dX0_track_26 : decode cX0_track 26 = .ok (.iload 4, 2) := by decide +kernel
theorem dX0_track_28 : decode cX0_track 28 = .ok (.iaload, 1) := by decide +kernel
theorem dX0_track_29 : decode cX0_track 29 = .ok (.istore 5, 2) := by decide +kernel
theorem dX0_track_31 : decode cX0_track 31 = .ok (.aload_n 0, 1) := by decide +kernel
theorem dX0_track_32 : decode cX0_track 32 = .ok (.getfield 19, 3) := by decide +kernel
theorem dX0_track_35 : decode cX0_track 35 = .ok (.iload 4, 2) := by decide +kernel
theorem dX0_track_37 : decode cX0_track 37 = .ok (.iload_n 3, 1) := by decide +kernel
theorem dX0_track_38 : decode cX0_track 38 = .ok (.iastore, 1) := by decide +kernel
theorem dX0_track_39 : decode cX0_track 39 = .ok (.iload 5, 2) := by decide +kernel
theorem dX0_track_41 : decode cX0_track 41 = .ok (.ireturn, 1) := by decide +kernel
set_option maxRecDepth 20000 in
theorem ggX0_setLink_X0_checkRouter : GoodIn wsX0_setLink wsX0_checkRouter := goodIn_ca (goodIn_r _ [5, 6, 7] (by decide +kernel) (by decide +kernel)) (goodIn_sub (fun _ h => List.mem_cons_of_mem _ (List.mem_append_right _ h)) (by decide +kernel))
set_option maxRecDepth 20000 in
theorem gX0_setLink_X0_checkRouter : GoodIn wsX0_setLink (va_wsS RX0 59 yX0_checkRouter wsX0_checkRouter) := goodIn_app (goodIn_of _ (by decide +kernel)) ggX0_setLink_X0_checkRouter
set_option maxRecDepth 20000 in
theorem ggX0_setLink_X0_checkLink : GoodIn wsX0_setLink wsX0_checkLink := goodIn_ca (goodIn_r _ [10, 6, 7] (by decide +kernel) (by decide +kernel)) (goodIn_sub (fun _ h => List.mem_cons_of_mem _ (List.mem_append_right _ h)) (by decide +kernel))
set_option maxRecDepth 20000 in
theorem gX0_setLink_X0_checkLink : GoodIn wsX0_setLink (va_wsS RX0 81 yX0_checkLink wsX0_checkLink) := goodIn_app (goodIn_of _ (by decide +kernel)) ggX0_setLink_X0_checkLink
set_option maxRecDepth 20000 in
theorem ggX0_setLink_X0_linkOf : GoodIn wsX0_setLink wsX0_linkOf := goodIn_r _ [13] (by decide +kernel) (by decide +kernel)
set_option maxRecDepth 20000 in
theorem gX0_setLink_X0_linkOf : GoodIn wsX0_setLink (va_wsS RX0 84 yX0_linkOf wsX0_linkOf) := goodIn_app (goodIn_of _ (by decide +kernel)) ggX0_setLink_X0_linkOf
theorem dX0_setLink_0 : decode cX0_setLink 0 = .ok (.iload_n 1, 1) := by decide +kernel
theorem dX0_setLink_1 : decode cX0_setLink 1 = .ok (.invokestatic 59, 3) := by decide +kernel
theorem dX0_setLink_4 : decode cX0_setLink 4 = .ok (.iload_n 2, 1) := by decide +kernel
theorem dX0_setLink_5 : decode cX0_setLink 5 = .ok (.invokestatic 81, 3) := by decide +kernel
theorem dX0_setLink_8 : decode cX0_setLink 8 = .ok (.iload_n 1, 1) := by decide +kernel
theorem dX0_setLink_9 : decode cX0_setLink 9 = .ok (.iload_n 2, 1) := by decide +kernel
theorem dX0_setLink_10 : decode cX0_setLink 10 = .ok (.invokestatic 84, 3) := by decide +kernel
theorem dX0_setLink_13 : decode cX0_setLink 13 = .ok (.istore 4, 2) := by decide +kernel
theorem dX0_setLink_15 : decode cX0_setLink 15 = .ok (.aload_n 0, 1) := by decide +kernel
theorem dX0_setLink_16 : decode cX0_setLink 16 = .ok (.getfield 16, 3) := by decide +kernel
theorem dX0_setLink_19 : decode cX0_setLink 19 = .ok (.iload 4, 2) := by decide +kernel
theorem dX0_setLink_21 : decode cX0_setLink 21 = .ok (.baload, 1) := by decide +kernel
theorem dX0_setLink_22 : decode cX0_setLink 22 = .ok (.istore 5, 2) := by decide +kernel
theorem dX0_setLink_24 : decode cX0_setLink 24 = .ok (.aload_n 0, 1) := by decide +kernel
theorem dX0_setLink_25 : decode cX0_setLink 25 = .ok (.getfield 16, 3) := by decide +kernel
theorem dX0_setLink_28 : decode cX0_setLink 28 = .ok (.iload 4, 2) := by decide +kernel
theorem dX0_setLink_30 : decode cX0_setLink 30 = .ok (.iload_n 3, 1) := by decide +kernel
theorem dX0_setLink_31 : decode cX0_setLink 31 = .ok (.bastore, 1) := by decide +kernel
theorem dX0_setLink_32 : decode cX0_setLink 32 = .ok (.iload 5, 2) := by decide +kernel
theorem dX0_setLink_34 : decode cX0_setLink 34 = .ok (.ireturn, 1) := by decide +kernel
set_option maxRecDepth 20000 in
theorem ggX0_setPeriod_X0_checkGroup : GoodIn wsX0_setPeriod wsX0_checkGroup := goodIn_ca (goodIn_r _ [5, 6, 7] (by decide +kernel) (by decide +kernel)) (goodIn_sub (fun _ h => List.mem_cons_of_mem _ (List.mem_append_right _ h)) (by decide +kernel))
set_option maxRecDepth 20000 in
theorem gX0_setPeriod_X0_checkGroup : GoodIn wsX0_setPeriod (va_wsS RX0 63 yX0_checkGroup wsX0_checkGroup) := goodIn_app (goodIn_of _ (by decide +kernel)) ggX0_setPeriod_X0_checkGroup
set_option maxRecDepth 20000 in
theorem ggX0_setPeriod_X0_checkRange : GoodIn wsX0_setPeriod wsX0_checkRange := goodIn_ca (goodIn_r _ [10, 6, 7] (by decide +kernel) (by decide +kernel)) (goodIn_sub (fun _ h => List.mem_cons_of_mem _ (List.mem_append_right _ h)) (by decide +kernel))
set_option maxRecDepth 20000 in
theorem gX0_setPeriod_X0_checkRange : GoodIn wsX0_setPeriod (va_wsS RX0 66 yX0_checkRange wsX0_checkRange) := goodIn_app (goodIn_of _ (by decide +kernel)) ggX0_setPeriod_X0_checkRange
theorem dX0_setPeriod_0 : decode cX0_setPeriod 0 = .ok (.iload_n 1, 1) := by decide +kernel
theorem dX0_setPeriod_1 : decode cX0_setPeriod 1 = .ok (.invokestatic 63, 3) := by decide +kernel
theorem dX0_setPeriod_4 : decode cX0_setPeriod 4 = .ok (.iload_n 2, 1) := by decide +kernel
theorem dX0_setPeriod_5 : decode cX0_setPeriod 5 = .ok (.iconst 1, 1) := by decide +kernel
theorem dX0_setPeriod_6 : decode cX0_setPeriod 6 = .ok (.bipush 10, 2) := by decide +kernel
theorem dX0_setPeriod_8 : decode cX0_setPeriod 8 = .ok (.invokestatic 66, 3) := by decide +kernel
theorem dX0_setPeriod_11 : decode cX0_setPeriod 11 = .ok (.aload_n 0, 1) := by decide +kernel
theorem dX0_setPeriod_12 : decode cX0_setPeriod 12 = .ok (.getfield 23, 3) := by decide +kernel
theorem dX0_setPeriod_15 : decode cX0_setPeriod 15 = .ok (.iload_n 1, 1) := by decide +kernel
theorem dX0_setPeriod_16 : decode cX0_setPeriod 16 = .ok (.iaload, 1) := by decide +kernel
theorem dX0_setPeriod_17 : decode cX0_setPeriod 17 = .ok (.istore_n 3, 1) := by decide +kernel
theorem dX0_setPeriod_18 : decode cX0_setPeriod 18 = .ok (.aload_n 0, 1) := by decide +kernel
theorem dX0_setPeriod_19 : decode cX0_setPeriod 19 = .ok (.getfield 23, 3) := by decide +kernel
theorem dX0_setPeriod_22 : decode cX0_setPeriod 22 = .ok (.iload_n 1, 1) := by decide +kernel
theorem dX0_setPeriod_23 : decode cX0_setPeriod 23 = .ok (.iload_n 2, 1) := by decide +kernel
theorem dX0_setPeriod_24 : decode cX0_setPeriod 24 = .ok (.iastore, 1) := by decide +kernel
theorem dX0_setPeriod_25 : decode cX0_setPeriod 25 = .ok (.iload_n 3, 1) := by decide +kernel
theorem dX0_setPeriod_26 : decode cX0_setPeriod 26 = .ok (.ireturn, 1) := by decide +kernel
set_option maxRecDepth 20000 in
theorem ggX0_setPreemption_X0_checkGroup : GoodIn wsX0_setPreemption wsX0_checkGroup := goodIn_ca (goodIn_r _ [6, 7, 8] (by decide +kernel) (by decide +kernel)) (goodIn_sub (fun _ h => List.mem_cons_of_mem _ (List.mem_append_right _ h)) (by decide +kernel))
set_option maxRecDepth 20000 in
theorem gX0_setPreemption_X0_checkGroup : GoodIn wsX0_setPreemption (va_wsS RX0 63 yX0_checkGroup wsX0_checkGroup) := goodIn_app (goodIn_of _ (by decide +kernel)) ggX0_setPreemption_X0_checkGroup
set_option maxRecDepth 20000 in
theorem ggX0_setPreemption_X0_checkRange : GoodIn wsX0_setPreemption wsX0_checkRange := goodIn_ca (goodIn_r _ [11, 7, 8] (by decide +kernel) (by decide +kernel)) (goodIn_sub (fun _ h => List.mem_cons_of_mem _ (List.mem_append_right _ h)) (by decide +kernel))
set_option maxRecDepth 20000 in
theorem gX0_setPreemption_X0_checkRange : GoodIn wsX0_setPreemption (va_wsS RX0 66 yX0_checkRange wsX0_checkRange) := goodIn_app (goodIn_of _ (by decide +kernel)) ggX0_setPreemption_X0_checkRange
theorem dX0_setPreemption_0 : decode cX0_setPreemption 0 = .ok (.iload_n 1, 1) := by decide +kernel
theorem dX0_setPreemption_1 : decode cX0_setPreemption 1 = .ok (.invokestatic 63, 3) := by decide +kernel
theorem dX0_setPreemption_4 : decode cX0_setPreemption 4 = .ok (.iload_n 3, 1) := by decide +kernel
theorem dX0_setPreemption_5 : decode cX0_setPreemption 5 = .ok (.iconst 0, 1) := by decide +kernel
theorem dX0_setPreemption_6 : decode cX0_setPreemption 6 = .ok (.bipush 10, 2) := by decide +kernel
theorem dX0_setPreemption_8 : decode cX0_setPreemption 8 = .ok (.invokestatic 66, 3) := by decide +kernel
theorem dX0_setPreemption_11 : decode cX0_setPreemption 11 = .ok (.aload_n 0, 1) := by decide +kernel
theorem dX0_setPreemption_12 : decode cX0_setPreemption 12 = .ok (.getfield 26, 3) := by decide +kernel
theorem dX0_setPreemption_15 : decode cX0_setPreemption 15 = .ok (.iload_n 1, 1) := by decide +kernel
theorem dX0_setPreemption_16 : decode cX0_setPreemption 16 = .ok (.iload_n 2, 1) := by decide +kernel
theorem dX0_setPreemption_17 : decode cX0_setPreemption 17 = .ok (.bastore, 1) := by decide +kernel
theorem dX0_setPreemption_18 : decode cX0_setPreemption 18 = .ok (.aload_n 0, 1) := by decide +kernel
theorem dX0_setPreemption_19 : decode cX0_setPreemption 19 = .ok (.getfield 29, 3) := by decide +kernel
theorem dX0_setPreemption_22 : decode cX0_setPreemption 22 = .ok (.iload_n 1, 1) := by decide +kernel
theorem dX0_setPreemption_23 : decode cX0_setPreemption 23 = .ok (.iload_n 3, 1) := by decide +kernel
theorem dX0_setPreemption_24 : decode cX0_setPreemption 24 = .ok (.iastore, 1) := by decide +kernel
theorem dX0_setPreemption_25 : decode cX0_setPreemption 25 = .ok (.return_, 1) := by decide +kernel
set_option maxRecDepth 20000 in
theorem ggX0_join_X0_checkRouter : GoodIn wsX0_join wsX0_checkRouter := goodIn_ca (goodIn_r _ [7, 1, 2] (by decide +kernel) (by decide +kernel)) (goodIn_sub (fun _ h => List.mem_cons_of_mem _ (List.mem_append_right _ h)) (by decide +kernel))
set_option maxRecDepth 20000 in
theorem gX0_join_X0_checkRouter : GoodIn wsX0_join (va_wsS RX0 59 yX0_checkRouter wsX0_checkRouter) := goodIn_app (goodIn_of _ (by decide +kernel)) ggX0_join_X0_checkRouter
theorem dX0_join_0 : decode cX0_join 0 = .ok (.iload_n 1, 1) := by decide +kernel
theorem dX0_join_1 : decode cX0_join 1 = .ok (.invokestatic 59, 3) := by decide +kernel
theorem dX0_join_4 : decode cX0_join 4 = .ok (.iload_n 2, 1) := by decide +kernel
theorem dX0_join_5 : decode cX0_join 5 = .ok (.invokestatic 59, 3) := by decide +kernel
theorem dX0_join_8 : decode cX0_join 8 = .ok (.iload_n 1, 1) := by decide +kernel
theorem dX0_join_9 : decode cX0_join 9 = .ok (.iload_n 2, 1) := by decide +kernel
theorem dX0_join_10 : decode cX0_join 10 = .ok (.if_icmp .ne 13, 3) := by decide +kernel
theorem dX0_join_13 : decode cX0_join 13 = .ok (.new 87, 3) := by decide +kernel
theorem dX0_join_16 : decode cX0_join 16 = .ok (.dup, 1) := by decide +kernel
theorem dX0_join_17 : decode cX0_join 17 = .ok (.ldc 89, 2) := by decide +kernel
theorem dX0_join_19 : decode cX0_join 19 = .ok (.invokespecial 91, 3) := by decide +kernel
theorem dX0_join_22 : decode cX0_join 22 = .ok (.athrow, 1) := by decide +kernel
theorem dX0_join_23 : decode cX0_join 23 = .ok (.aload_n 0, 1) := by decide +kernel
theorem dX0_join_24 : decode cX0_join 24 = .ok (.getfield 13, 3) := by decide +kernel
theorem dX0_join_27 : decode cX0_join 27 = .ok (.iload_n 1, 1) := by decide +kernel
theorem dX0_join_28 : decode cX0_join 28 = .ok (.iconst 4, 1) := by decide +kernel
theorem dX0_join_29 : decode cX0_join 29 = .ok (.imul, 1) := by decide +kernel
theorem dX0_join_30 : decode cX0_join 30 = .ok (.iload_n 2, 1) := by decide +kernel
theorem dX0_join_31 : decode cX0_join 31 = .ok (.iadd, 1) := by decide +kernel
theorem dX0_join_32 : decode cX0_join 32 = .ok (.baload, 1) := by decide +kernel
theorem dX0_join_33 : decode cX0_join 33 = .ok (.istore 4, 2) := by decide +kernel
theorem dX0_join_35 : decode cX0_join 35 = .ok (.aload_n 0, 1) := by decide +kernel
theorem dX0_join_36 : decode cX0_join 36 = .ok (.getfield 13, 3) := by decide +kernel
theorem dX0_join_39 : decode cX0_join 39 = .ok (.iload_n 1, 1) := by decide +kernel
theorem dX0_join_40 : decode cX0_join 40 = .ok (.iconst 4, 1) := by decide +kernel
theorem dX0_join_41 : decode cX0_join 41 = .ok (.imul, 1) := by decide +kernel
theorem dX0_join_42 : decode cX0_join 42 = .ok (.iload_n 2, 1) := by decide +kernel
theorem dX0_join_43 : decode cX0_join 43 = .ok (.iadd, 1) := by decide +kernel
theorem dX0_join_44 : decode cX0_join 44 = .ok (.iload_n 3, 1) := by decide +kernel
theorem dX0_join_45 : decode cX0_join 45 = .ok (.bastore, 1) := by decide +kernel
theorem dX0_join_46 : decode cX0_join 46 = .ok (.aload_n 0, 1) := by decide +kernel
theorem dX0_join_47 : decode cX0_join 47 = .ok (.getfield 13, 3) := by decide +kernel
theorem dX0_join_50 : decode cX0_join 50 = .ok (.iload_n 2, 1) := by decide +kernel
theorem dX0_join_51 : decode cX0_join 51 = .ok (.iconst 4, 1) := by decide +kernel
theorem dX0_join_52 : decode cX0_join 52 = .ok (.imul, 1) := by decide +kernel
theorem dX0_join_53 : decode cX0_join 53 = .ok (.iload_n 1, 1) := by decide +kernel
theorem dX0_join_54 : decode cX0_join 54 = .ok (.iadd, 1) := by decide +kernel
theorem dX0_join_55 : decode cX0_join 55 = .ok (.iload_n 3, 1) := by decide +kernel
theorem dX0_join_56 : decode cX0_join 56 = .ok (.bastore, 1) := by decide +kernel
theorem dX0_join_57 : decode cX0_join 57 = .ok (.iload 4, 2) := by decide +kernel
theorem dX0_join_59 : decode cX0_join 59 = .ok (.ireturn, 1) := by decide +kernel
set_option maxRecDepth 20000 in
theorem ggX0_die_X0_checkRouter : GoodIn wsX0_die wsX0_checkRouter := goodIn_ca (goodIn_r _ [8, 9, 10] (by decide +kernel) (by decide +kernel)) (goodIn_sub (fun _ h => List.mem_cons_of_mem _ (List.mem_append_right _ h)) (by decide +kernel))
set_option maxRecDepth 20000 in
theorem gX0_die_X0_checkRouter : GoodIn wsX0_die (va_wsS RX0 59 yX0_checkRouter wsX0_checkRouter) := goodIn_app (goodIn_of _ (by decide +kernel)) ggX0_die_X0_checkRouter
set_option maxRecDepth 20000 in
theorem ggX0_die_X0_placeOf : GoodIn wsX0_die wsX0_placeOf := goodIn_r _ [13] (by decide +kernel) (by decide +kernel)
set_option maxRecDepth 20000 in
theorem gX0_die_X0_placeOf : GoodIn wsX0_die (va_wsS RX0 70 yX0_placeOf wsX0_placeOf) := goodIn_app (goodIn_of _ (by decide +kernel)) ggX0_die_X0_placeOf
theorem dX0_die_0 : decode cX0_die 0 = .ok (.iload_n 1, 1) := by decide +kernel
theorem dX0_die_1 : decode cX0_die 1 = .ok (.invokestatic 59, 3) := by decide +kernel
theorem dX0_die_4 : decode cX0_die 4 = .ok (.aload_n 0, 1) := by decide +kernel
theorem dX0_die_5 : decode cX0_die 5 = .ok (.getfield 9, 3) := by decide +kernel
theorem dX0_die_8 : decode cX0_die 8 = .ok (.iload_n 1, 1) := by decide +kernel
theorem dX0_die_9 : decode cX0_die 9 = .ok (.baload, 1) := by decide +kernel
theorem dX0_die_10 : decode cX0_die 10 = .ok (.ifCond .ne 13, 3) := by decide +kernel
theorem dX0_die_13 : decode cX0_die 13 = .ok (.new 94, 3) := by decide +kernel
theorem dX0_die_16 : decode cX0_die 16 = .ok (.dup, 1) := by decide +kernel
theorem dX0_die_17 : decode cX0_die 17 = .ok (.ldc 96, 2) := by decide +kernel
theorem dX0_die_19 : decode cX0_die 19 = .ok (.invokespecial 98, 3) := by decide +kernel
theorem dX0_die_22 : decode cX0_die 22 = .ok (.athrow, 1) := by decide +kernel
theorem dX0_die_23 : decode cX0_die 23 = .ok (.aload_n 0, 1) := by decide +kernel
theorem dX0_die_24 : decode cX0_die 24 = .ok (.getfield 9, 3) := by decide +kernel
theorem dX0_die_27 : decode cX0_die 27 = .ok (.iload_n 1, 1) := by decide +kernel
theorem dX0_die_28 : decode cX0_die 28 = .ok (.iconst 0, 1) := by decide +kernel
theorem dX0_die_29 : decode cX0_die 29 = .ok (.bastore, 1) := by decide +kernel
theorem dX0_die_30 : decode cX0_die 30 = .ok (.iconst 0, 1) := by decide +kernel
theorem dX0_die_31 : decode cX0_die 31 = .ok (.istore_n 2, 1) := by decide +kernel
theorem dX0_die_32 : decode cX0_die 32 = .ok (.iconst 0, 1) := by decide +kernel
theorem dX0_die_33 : decode cX0_die 33 = .ok (.istore_n 3, 1) := by decide +kernel
theorem dX0_die_34 : decode cX0_die 34 = .ok (.iload_n 3, 1) := by decide +kernel
theorem dX0_die_35 : decode cX0_die 35 = .ok (.iconst 3, 1) := by decide +kernel
theorem dX0_die_36 : decode cX0_die 36 = .ok (.if_icmp .ge 38, 3) := by decide +kernel
theorem dX0_die_39 : decode cX0_die 39 = .ok (.iload_n 1, 1) := by decide +kernel
theorem dX0_die_40 : decode cX0_die 40 = .ok (.iload_n 3, 1) := by decide +kernel
theorem dX0_die_41 : decode cX0_die 41 = .ok (.invokestatic 70, 3) := by decide +kernel
theorem dX0_die_44 : decode cX0_die 44 = .ok (.istore 4, 2) := by decide +kernel
theorem dX0_die_46 : decode cX0_die 46 = .ok (.aload_n 0, 1) := by decide +kernel
theorem dX0_die_47 : decode cX0_die 47 = .ok (.getfield 41, 3) := by decide +kernel
theorem dX0_die_50 : decode cX0_die 50 = .ok (.iload 4, 2) := by decide +kernel
theorem dX0_die_52 : decode cX0_die 52 = .ok (.iaload, 1) := by decide +kernel
theorem dX0_die_53 : decode cX0_die 53 = .ok (.iconst 2, 1) := by decide +kernel
theorem dX0_die_54 : decode cX0_die 54 = .ok (.if_icmp .ne 6, 3) := by decide +kernel
theorem dX0_die_57 : decode cX0_die 57 = .ok (.iinc 2 1, 3) := by decide +kernel
theorem dX0_die_60 : decode cX0_die 60 = .ok (.aload_n 0, 1) := by decide +kernel
theorem dX0_die_61 : decode cX0_die 61 = .ok (.getfield 41, 3) := by decide +kernel
theorem dX0_die_64 : decode cX0_die 64 = .ok (.iload 4, 2) := by decide +kernel
theorem dX0_die_66 : decode cX0_die 66 = .ok (.iconst 0, 1) := by decide +kernel
theorem dX0_die_67 : decode cX0_die 67 = .ok (.iastore, 1) := by decide +kernel
theorem dX0_die_68 : decode cX0_die 68 = .ok (.iinc 3 1, 3) := by decide +kernel
theorem dX0_die_71 : decode cX0_die 71 = .ok (.goto (-37), 3) := by decide +kernel
theorem dX0_die_74 : decode cX0_die 74 = .ok (.iload_n 2, 1) := by decide +kernel
theorem dX0_die_75 : decode cX0_die 75 = .ok (.ireturn, 1) := by decide +kernel
set_option maxRecDepth 20000 in
theorem ggX0_live_X0_checkRouter : GoodIn wsX0_live wsX0_checkRouter := goodIn_ca (goodIn_r _ [8, 9, 10] (by decide +kernel) (by decide +kernel)) (goodIn_sub (fun _ h => List.mem_cons_of_mem _ (List.mem_append_right _ h)) (by decide +kernel))
set_option maxRecDepth 20000 in
theorem gX0_live_X0_checkRouter : GoodIn wsX0_live (va_wsS RX0 59 yX0_checkRouter wsX0_checkRouter) := goodIn_app (goodIn_of _ (by decide +kernel)) ggX0_live_X0_checkRouter
set_option maxRecDepth 20000 in
theorem ggX0_live_X0_placeOf : GoodIn wsX0_live wsX0_placeOf := goodIn_r _ [13] (by decide +kernel) (by decide +kernel)
set_option maxRecDepth 20000 in
theorem gX0_live_X0_placeOf : GoodIn wsX0_live (va_wsS RX0 70 yX0_placeOf wsX0_placeOf) := goodIn_app (goodIn_of _ (by decide +kernel)) ggX0_live_X0_placeOf
set_option maxRecDepth 20000 in
theorem ggX0_live_X0_beginPart : GoodIn wsX0_live wsX0_beginPart := goodIn_r _ [17, 18, 19, 20, 21, 7, 22, 23, 24, 25, 11, 12, 13, 26, 27, 28, 29, 4, 30, 31, 32, 33, 34, 35, 36, 37, 38, 39, 40, 41, 42, 43, 44, 45, 46, 47, 48, 49, 50, 51, 52, 53, 54, 55, 56, 57, 58, 59, 60, 61, 62, 63, 64, 65] (by decide +kernel) (by decide +kernel)
set_option maxRecDepth 20000 in
theorem gX0_live_X0_beginPart : GoodIn wsX0_live (wsV RX0 77 RX0 yX0_beginPart wsX0_beginPart) := goodIn_app (goodIn_of _ (by decide +kernel)) ggX0_live_X0_beginPart
theorem dX0_live_0 : decode cX0_live 0 = .ok (.iload_n 1, 1) := by decide +kernel
theorem dX0_live_1 : decode cX0_live 1 = .ok (.invokestatic 59, 3) := by decide +kernel
theorem dX0_live_4 : decode cX0_live 4 = .ok (.aload_n 0, 1) := by decide +kernel
theorem dX0_live_5 : decode cX0_live 5 = .ok (.getfield 9, 3) := by decide +kernel
theorem dX0_live_8 : decode cX0_live 8 = .ok (.iload_n 1, 1) := by decide +kernel
theorem dX0_live_9 : decode cX0_live 9 = .ok (.baload, 1) := by decide +kernel
theorem dX0_live_10 : decode cX0_live 10 = .ok (.ifCond .eq 13, 3) := by decide +kernel
theorem dX0_live_13 : decode cX0_live 13 = .ok (.new 94, 3) := by decide +kernel
theorem dX0_live_16 : decode cX0_live 16 = .ok (.dup, 1) := by decide +kernel
theorem dX0_live_17 : decode cX0_live 17 = .ok (.ldc 99, 2) := by decide +kernel
theorem dX0_live_19 : decode cX0_live 19 = .ok (.invokespecial 98, 3) := by decide +kernel
theorem dX0_live_22 : decode cX0_live 22 = .ok (.athrow, 1) := by decide +kernel
theorem dX0_live_23 : decode cX0_live 23 = .ok (.aload_n 0, 1) := by decide +kernel
theorem dX0_live_24 : decode cX0_live 24 = .ok (.getfield 9, 3) := by decide +kernel
theorem dX0_live_27 : decode cX0_live 27 = .ok (.iload_n 1, 1) := by decide +kernel
theorem dX0_live_28 : decode cX0_live 28 = .ok (.iconst 1, 1) := by decide +kernel
theorem dX0_live_29 : decode cX0_live 29 = .ok (.bastore, 1) := by decide +kernel
theorem dX0_live_30 : decode cX0_live 30 = .ok (.iconst 0, 1) := by decide +kernel
theorem dX0_live_31 : decode cX0_live 31 = .ok (.istore_n 2, 1) := by decide +kernel
theorem dX0_live_32 : decode cX0_live 32 = .ok (.iconst 0, 1) := by decide +kernel
theorem dX0_live_33 : decode cX0_live 33 = .ok (.istore_n 3, 1) := by decide +kernel
theorem dX0_live_34 : decode cX0_live 34 = .ok (.iload_n 3, 1) := by decide +kernel
theorem dX0_live_35 : decode cX0_live 35 = .ok (.iconst 3, 1) := by decide +kernel
theorem dX0_live_36 : decode cX0_live 36 = .ok (.if_icmp .ge 31, 3) := by decide +kernel
theorem dX0_live_39 : decode cX0_live 39 = .ok (.aload_n 0, 1) := by decide +kernel
theorem dX0_live_40 : decode cX0_live 40 = .ok (.getfield 38, 3) := by decide +kernel
theorem dX0_live_43 : decode cX0_live 43 = .ok (.iload_n 1, 1) := by decide +kernel
theorem dX0_live_44 : decode cX0_live 44 = .ok (.iload_n 3, 1) := by decide +kernel
theorem dX0_live_45 : decode cX0_live 45 = .ok (.invokestatic 70, 3) := by decide +kernel
theorem dX0_live_48 : decode cX0_live 48 = .ok (.iaload, 1) := by decide +kernel
theorem dX0_live_49 : decode cX0_live 49 = .ok (.ifCond .le 12, 3) := by decide +kernel
theorem dX0_live_52 : decode cX0_live 52 = .ok (.aload_n 0, 1) := by decide +kernel
theorem dX0_live_53 : decode cX0_live 53 = .ok (.iload_n 1, 1) := by decide +kernel
theorem dX0_live_54 : decode cX0_live 54 = .ok (.iload_n 3, 1) := by decide +kernel
theorem dX0_live_55 : decode cX0_live 55 = .ok (.invokevirtual 77, 3) := by decide +kernel
theorem dX0_live_58 : decode cX0_live 58 = .ok (.iinc 2 1, 3) := by decide +kernel
theorem dX0_live_61 : decode cX0_live 61 = .ok (.iinc 3 1, 3) := by decide +kernel
theorem dX0_live_64 : decode cX0_live 64 = .ok (.goto (-30), 3) := by decide +kernel
theorem dX0_live_67 : decode cX0_live 67 = .ok (.iload_n 2, 1) := by decide +kernel
theorem dX0_live_68 : decode cX0_live 68 = .ok (.ireturn, 1) := by decide +kernel
set_option maxRecDepth 20000 in
theorem ggX0_handOver_X0_checkRouter : GoodIn wsX0_handOver wsX0_checkRouter := goodIn_ca (goodIn_r _ [7, 8, 9] (by decide +kernel) (by decide +kernel)) (goodIn_sub (fun _ h => List.mem_cons_of_mem _ (List.mem_append_right _ h)) (by decide +kernel))
set_option maxRecDepth 20000 in
theorem gX0_handOver_X0_checkRouter : GoodIn wsX0_handOver (va_wsS RX0 59 yX0_checkRouter wsX0_checkRouter) := goodIn_app (goodIn_of _ (by decide +kernel)) ggX0_handOver_X0_checkRouter
set_option maxRecDepth 20000 in
theorem ggX0_handOver_X0_checkGroup : GoodIn wsX0_handOver wsX0_checkGroup := goodIn_ca (goodIn_r _ [12, 8, 9] (by decide +kernel) (by decide +kernel)) (goodIn_sub (fun _ h => List.mem_cons_of_mem _ (List.mem_append_right _ h)) (by decide +kernel))
set_option maxRecDepth 20000 in
theorem gX0_handOver_X0_checkGroup : GoodIn wsX0_handOver (va_wsS RX0 63 yX0_checkGroup wsX0_checkGroup) := goodIn_app (goodIn_of _ (by decide +kernel)) ggX0_handOver_X0_checkGroup
set_option maxRecDepth 20000 in
theorem ggX0_handOver_X0_placeOf : GoodIn wsX0_handOver wsX0_placeOf := goodIn_r _ [15] (by decide +kernel) (by decide +kernel)
set_option maxRecDepth 20000 in
theorem gX0_handOver_X0_placeOf : GoodIn wsX0_handOver (va_wsS RX0 70 yX0_placeOf wsX0_placeOf) := goodIn_app (goodIn_of _ (by decide +kernel)) ggX0_handOver_X0_placeOf
set_option maxRecDepth 20000 in
theorem ggX0_handOver_X0_becomeBackup : GoodIn wsX0_handOver wsX0_becomeBackup := goodIn_r _ [19, 3, 20, 21, 13, 14, 6, 15, 22, 23, 24, 25, 26, 27, 28, 29, 30, 31, 32, 33, 34, 35, 36, 37, 38, 39, 40, 41, 42, 43, 44, 68, 69, 70, 71, 72, 73, 74, 75, 76, 77, 78, 79, 80, 81, 82, 83, 84, 85] (by decide +kernel) (by decide +kernel)
set_option maxRecDepth 20000 in
theorem gX0_handOver_X0_becomeBackup : GoodIn wsX0_handOver (wsV RX0 103 RX0 yX0_becomeBackup wsX0_becomeBackup) := goodIn_app (goodIn_of _ (by decide +kernel)) ggX0_handOver_X0_becomeBackup
set_option maxRecDepth 20000 in
theorem ggX0_handOver_X0_advertise : GoodIn wsX0_handOver wsX0_advertise := goodIn_r _ [48, 49, 50, 3, 13, 14, 6, 15, 51, 52, 53, 54, 22, 23, 24, 25, 26, 27, 28, 29, 30, 31, 32, 33, 34, 35, 16, 17, 18, 19, 20, 21, 36, 37, 38, 39, 40, 41, 42, 43, 44, 55, 56, 57, 58, 59, 60, 61, 62, 63, 64, 65, 66, 67, 68, 69, 70, 71, 72, 73, 74, 75, 76, 77, 78, 79, 80, 81, 82, 83, 84, 85] (by decide +kernel) (by decide +kernel)
set_option maxRecDepth 20000 in
theorem gX0_handOver_X0_advertise : GoodIn wsX0_handOver (wsV RX0 74 RX0 yX0_advertise wsX0_advertise) := goodIn_app (goodIn_of _ (by decide +kernel)) ggX0_handOver_X0_advertise
theorem dX0_handOver_0 : decode cX0_handOver 0 = .ok (.iload_n 1, 1) := by decide +kernel
theorem dX0_handOver_1 : decode cX0_handOver 1 = .ok (.invokestatic 59, 3) := by decide +kernel
theorem dX0_handOver_4 : decode cX0_handOver 4 = .ok (.iload_n 2, 1) := by decide +kernel
theorem dX0_handOver_5 : decode cX0_handOver 5 = .ok (.invokestatic 63, 3) := by decide +kernel
theorem dX0_handOver_8 : decode cX0_handOver 8 = .ok (.aload_n 0, 1) := by decide +kernel
theorem dX0_handOver_9 : decode cX0_handOver 9 = .ok (.getfield 41, 3) := by decide +kernel
theorem dX0_handOver_12 : decode cX0_handOver 12 = .ok (.iload_n 1, 1) := by decide +kernel
theorem dX0_handOver_13 : decode cX0_handOver 13 = .ok (.iload_n 2, 1) := by decide +kernel
theorem dX0_handOver_14 : decode cX0_handOver 14 = .ok (.invokestatic 70, 3) := by decide +kernel
theorem dX0_handOver_17 : decode cX0_handOver 17 = .ok (.iaload, 1) := by decide +kernel
theorem dX0_handOver_18 : decode cX0_handOver 18 = .ok (.iconst 2, 1) := by decide +kernel
theorem dX0_handOver_19 : decode cX0_handOver 19 = .ok (.if_icmp .eq 13, 3) := by decide +kernel
theorem dX0_handOver_22 : decode cX0_handOver 22 = .ok (.new 94, 3) := by decide +kernel
theorem dX0_handOver_25 : decode cX0_handOver 25 = .ok (.dup, 1) := by decide +kernel
theorem dX0_handOver_26 : decode cX0_handOver 26 = .ok (.ldc 101, 2) := by decide +kernel
theorem dX0_handOver_28 : decode cX0_handOver 28 = .ok (.invokespecial 98, 3) := by decide +kernel
theorem dX0_handOver_31 : decode cX0_handOver 31 = .ok (.athrow, 1) := by decide +kernel
theorem dX0_handOver_32 : decode cX0_handOver 32 = .ok (.aload_n 0, 1) := by decide +kernel
theorem dX0_handOver_33 : decode cX0_handOver 33 = .ok (.iload_n 1, 1) := by decide +kernel
theorem dX0_handOver_34 : decode cX0_handOver 34 = .ok (.iload_n 2, 1) := by decide +kernel
theorem dX0_handOver_35 : decode cX0_handOver 35 = .ok (.invokevirtual 103, 3) := by decide +kernel
theorem dX0_handOver_38 : decode cX0_handOver 38 = .ok (.aload_n 0, 1) := by decide +kernel
theorem dX0_handOver_39 : decode cX0_handOver 39 = .ok (.iload_n 1, 1) := by decide +kernel
theorem dX0_handOver_40 : decode cX0_handOver 40 = .ok (.iload_n 2, 1) := by decide +kernel
theorem dX0_handOver_41 : decode cX0_handOver 41 = .ok (.iconst 0, 1) := by decide +kernel
theorem dX0_handOver_42 : decode cX0_handOver 42 = .ok (.invokevirtual 74, 3) := by decide +kernel
theorem dX0_handOver_45 : decode cX0_handOver 45 = .ok (.return_, 1) := by decide +kernel
set_option maxRecDepth 20000 in
theorem ggX0_serve_X0_checkGroup : GoodIn wsX0_serve wsX0_checkGroup := goodIn_ca (goodIn_r _ [6, 7, 8] (by decide +kernel) (by decide +kernel)) (goodIn_sub (fun _ h => List.mem_cons_of_mem _ (List.mem_append_right _ h)) (by decide +kernel))
set_option maxRecDepth 20000 in
theorem gX0_serve_X0_checkGroup : GoodIn wsX0_serve (va_wsS RX0 63 yX0_checkGroup wsX0_checkGroup) := goodIn_app (goodIn_of _ (by decide +kernel)) ggX0_serve_X0_checkGroup
set_option maxRecDepth 20000 in
theorem ggX0_serve_X0_checkRange : GoodIn wsX0_serve wsX0_checkRange := goodIn_ca (goodIn_r _ [11, 7, 8] (by decide +kernel) (by decide +kernel)) (goodIn_sub (fun _ h => List.mem_cons_of_mem _ (List.mem_append_right _ h)) (by decide +kernel))
set_option maxRecDepth 20000 in
theorem gX0_serve_X0_checkRange : GoodIn wsX0_serve (va_wsS RX0 66 yX0_checkRange wsX0_checkRange) := goodIn_app (goodIn_of _ (by decide +kernel)) ggX0_serve_X0_checkRange
set_option maxRecDepth 20000 in
theorem ggX0_serve_X0_placeOf : GoodIn wsX0_serve wsX0_placeOf := goodIn_r _ [14] (by decide +kernel) (by decide +kernel)
set_option maxRecDepth 20000 in
theorem gX0_serve_X0_placeOf : GoodIn wsX0_serve (va_wsS RX0 70 yX0_placeOf wsX0_placeOf) := goodIn_app (goodIn_of _ (by decide +kernel)) ggX0_serve_X0_placeOf
theorem dX0_serve_0 : decode cX0_serve 0 = .ok (.iload_n 1, 1) := by decide +kernel
theorem dX0_serve_1 : decode cX0_serve 1 = .ok (.invokestatic 63, 3) := by decide +kernel
theorem dX0_serve_4 : decode cX0_serve 4 = .ok (.iload_n 2, 1) := by decide +kernel
theorem dX0_serve_5 : decode cX0_serve 5 = .ok (.iconst 1, 1) := by decide +kernel
theorem dX0_serve_6 : decode cX0_serve 6 = .ok (.bipush 100, 2) := by decide +kernel
theorem dX0_serve_8 : decode cX0_serve 8 = .ok (.invokestatic 66, 3) := by decide +kernel
theorem dX0_serve_11 : decode cX0_serve 11 = .ok (.iconst 0, 1) := by decide +kernel
theorem dX0_serve_12 : decode cX0_serve 12 = .ok (.istore_n 3, 1) := by decide +kernel
theorem dX0_serve_13 : decode cX0_serve 13 = .ok (.iconst 0, 1) := by decide +kernel
theorem dX0_serve_14 : decode cX0_serve 14 = .ok (.istore 4, 2) := by decide +kernel
theorem dX0_serve_16 : decode cX0_serve 16 = .ok (.iload 4, 2) := by decide +kernel
theorem dX0_serve_18 : decode cX0_serve 18 = .ok (.iconst 4, 1) := by decide +kernel
theorem dX0_serve_19 : decode cX0_serve 19 = .ok (.if_icmp .ge 42, 3) := by decide +kernel
theorem dX0_serve_22 : decode cX0_serve 22 = .ok (.iload 4, 2) := by decide +kernel
theorem dX0_serve_24 : decode cX0_serve 24 = .ok (.iload_n 1, 1) := by decide +kernel
theorem dX0_serve_25 : decode cX0_serve 25 = .ok (.invokestatic 70, 3) := by decide +kernel
theorem dX0_serve_28 : decode cX0_serve 28 = .ok (.istore 5, 2) := by decide +kernel
theorem dX0_serve_30 : decode cX0_serve 30 = .ok (.aload_n 0, 1) := by decide +kernel
theorem dX0_serve_31 : decode cX0_serve 31 = .ok (.getfield 41, 3) := by decide +kernel
theorem dX0_serve_34 : decode cX0_serve 34 = .ok (.iload 5, 2) := by decide +kernel
theorem dX0_serve_36 : decode cX0_serve 36 = .ok (.iaload, 1) := by decide +kernel
theorem dX0_serve_37 : decode cX0_serve 37 = .ok (.iconst 2, 1) := by decide +kernel
theorem dX0_serve_38 : decode cX0_serve 38 = .ok (.if_icmp .ne 17, 3) := by decide +kernel
theorem dX0_serve_41 : decode cX0_serve 41 = .ok (.aload_n 0, 1) := by decide +kernel
theorem dX0_serve_42 : decode cX0_serve 42 = .ok (.getfield 50, 3) := by decide +kernel
theorem dX0_serve_45 : decode cX0_serve 45 = .ok (.iload 5, 2) := by decide +kernel
theorem dX0_serve_47 : decode cX0_serve 47 = .ok (.dup2, 1) := by decide +kernel
theorem dX0_serve_48 : decode cX0_serve 48 = .ok (.iaload, 1) := by decide +kernel
theorem dX0_serve_49 : decode cX0_serve 49 = .ok (.iload_n 2, 1) := by decide +kernel
theorem dX0_serve_50 : decode cX0_serve 50 = .ok (.iadd, 1) := by decide +kernel
theorem dX0_serve_51 : decode cX0_serve 51 = .ok (.iastore, 1) := by decide +kernel
theorem dX0_serve_52 : decode cX0_serve 52 = .ok (.iinc 3 1, 3) := by decide +kernel
theorem dX0_serve_55 : decode cX0_serve 55 = .ok (.iinc 4 1, 3) := by decide +kernel
theorem dX0_serve_58 : decode cX0_serve 58 = .ok (.goto (-42), 3) := by decide +kernel
theorem dX0_serve_61 : decode cX0_serve 61 = .ok (.iload_n 3, 1) := by decide +kernel
theorem dX0_serve_62 : decode cX0_serve 62 = .ok (.ireturn, 1) := by decide +kernel
set_option maxRecDepth 20000 in
theorem ggX0_tick_X0_checkRange : GoodIn wsX0_tick wsX0_checkRange := goodIn_ca (goodIn_r _ [5, 6, 7] (by decide +kernel) (by decide +kernel)) (goodIn_sub (fun _ h => List.mem_cons_of_mem _ (List.mem_append_right _ h)) (by decide +kernel))
set_option maxRecDepth 20000 in
theorem gX0_tick_X0_checkRange : GoodIn wsX0_tick (va_wsS RX0 66 yX0_checkRange wsX0_checkRange) := goodIn_app (goodIn_of _ (by decide +kernel)) ggX0_tick_X0_checkRange
set_option maxRecDepth 20000 in
theorem ggX0_tick_X0_runMasters : GoodIn wsX0_tick wsX0_runMasters := goodIn_r _ [11, 12, 13, 14, 15, 16, 4, 17, 18, 19, 20, 21, 22, 23, 24, 25, 26, 27, 28, 29, 30, 31, 32, 33, 34, 35, 36, 37, 38, 39, 40, 41, 42, 43, 44, 45, 46, 47, 48, 49, 50, 51, 52, 53, 54, 55, 56, 57, 58, 59, 60, 61, 62, 63, 64, 65, 66, 67, 82, 83, 84, 85, 86, 87, 88, 89, 90, 91, 92, 93, 94, 95, 96, 97, 98, 99] (by decide +kernel) (by decide +kernel)
set_option maxRecDepth 20000 in
theorem gX0_tick_X0_runMasters : GoodIn wsX0_tick (wsV RX0 106 RX0 yX0_runMasters wsX0_runMasters) := goodIn_app (goodIn_of _ (by decide +kernel)) ggX0_tick_X0_runMasters
set_option maxRecDepth 20000 in
theorem ggX0_tick_X0_runBackups : GoodIn wsX0_tick wsX0_runBackups := goodIn_r _ [71, 12, 13, 72, 14, 15, 16, 4, 17, 18, 19, 20, 21, 22, 23, 24, 25, 26, 27, 28, 29, 30, 31, 32, 33, 34, 35, 36, 37, 38, 39, 40, 41, 42, 43, 44, 45, 46, 47, 48, 49, 50, 51, 52, 53, 54, 55, 56, 57, 58, 59, 60, 61, 62, 63, 64, 65, 66, 67, 82, 83, 84, 85, 86, 87, 88, 89, 90, 91, 92, 93, 94, 95, 96, 97, 98, 99] (by decide +kernel) (by decide +kernel)
set_option maxRecDepth 20000 in
theorem gX0_tick_X0_runBackups : GoodIn wsX0_tick (wsV RX0 109 RX0 yX0_runBackups wsX0_runBackups) := goodIn_app (goodIn_of _ (by decide +kernel)) ggX0_tick_X0_runBackups
set_option maxRecDepth 20000 in
theorem ggX0_tick_X0_noteGap : GoodIn wsX0_tick wsX0_noteGap := goodIn_r _ [76, 77, 78, 79, 80, 4, 81, 12, 15, 16, 17, 82, 83, 84, 85, 86, 87, 88, 89, 90, 91, 92, 93, 94, 95, 96, 97, 98, 99] (by decide +kernel) (by decide +kernel)
set_option maxRecDepth 20000 in
theorem gX0_tick_X0_noteGap : GoodIn wsX0_tick (wsV RX0 112 RX0 yX0_noteGap wsX0_noteGap) := goodIn_app (goodIn_of _ (by decide +kernel)) ggX0_tick_X0_noteGap
theorem dX0_tick_0 : decode cX0_tick 0 = .ok (.iload_n 1, 1) := by decide +kernel
theorem dX0_tick_1 : decode cX0_tick 1 = .ok (.iconst 1, 1) := by decide +kernel
theorem dX0_tick_2 : decode cX0_tick 2 = .ok (.bipush 50, 2) := by decide +kernel
theorem dX0_tick_4 : decode cX0_tick 4 = .ok (.invokestatic 66, 3) := by decide +kernel
theorem dX0_tick_7 : decode cX0_tick 7 = .ok (.iconst 0, 1) := by decide +kernel
theorem dX0_tick_8 : decode cX0_tick 8 = .ok (.istore_n 2, 1) := by decide +kernel
theorem dX0_tick_9 : decode cX0_tick 9 = .ok (.iload_n 2, 1) := by decide +kernel
theorem dX0_tick_10 : decode cX0_tick 10 = .ok (.iload_n 1, 1) := by decide +kernel
theorem dX0_tick_11 : decode cX0_tick 11 = .ok (.if_icmp .ge 37, 3) := by decide +kernel
theorem dX0_tick_14 : decode cX0_tick 14 = .ok (.iconst 0, 1) := by decide +kernel
theorem dX0_tick_15 : decode cX0_tick 15 = .ok (.istore_n 3, 1) := by decide +kernel
theorem dX0_tick_16 : decode cX0_tick 16 = .ok (.iload_n 3, 1) := by decide +kernel
theorem dX0_tick_17 : decode cX0_tick 17 = .ok (.iconst 3, 1) := by decide +kernel
theorem dX0_tick_18 : decode cX0_tick 18 = .ok (.if_icmp .ge 24, 3) := by decide +kernel
theorem dX0_tick_21 : decode cX0_tick 21 = .ok (.aload_n 0, 1) := by decide +kernel
theorem dX0_tick_22 : decode cX0_tick 22 = .ok (.iload_n 3, 1) := by decide +kernel
theorem dX0_tick_23 : decode cX0_tick 23 = .ok (.invokevirtual 106, 3) := by decide +kernel
theorem dX0_tick_26 : decode cX0_tick 26 = .ok (.aload_n 0, 1) := by decide +kernel
theorem dX0_tick_27 : decode cX0_tick 27 = .ok (.iload_n 3, 1) := by decide +kernel
theorem dX0_tick_28 : decode cX0_tick 28 = .ok (.invokevirtual 109, 3) := by decide +kernel
theorem dX0_tick_31 : decode cX0_tick 31 = .ok (.aload_n 0, 1) := by decide +kernel
theorem dX0_tick_32 : decode cX0_tick 32 = .ok (.iload_n 3, 1) := by decide +kernel
theorem dX0_tick_33 : decode cX0_tick 33 = .ok (.invokevirtual 112, 3) := by decide +kernel
theorem dX0_tick_36 : decode cX0_tick 36 = .ok (.iinc 3 1, 3) := by decide +kernel
theorem dX0_tick_39 : decode cX0_tick 39 = .ok (.goto (-23), 3) := by decide +kernel
theorem dX0_tick_42 : decode cX0_tick 42 = .ok (.iinc 2 1, 3) := by decide +kernel
theorem dX0_tick_45 : decode cX0_tick 45 = .ok (.goto (-36), 3) := by decide +kernel
theorem dX0_tick_48 : decode cX0_tick 48 = .ok (.aload_n 0, 1) := by decide +kernel
theorem dX0_tick_49 : decode cX0_tick 49 = .ok (.dup, 1) := by decide +kernel
theorem dX0_tick_50 : decode cX0_tick 50 = .ok (.getfield 115, 3) := by decide +kernel
theorem dX0_tick_53 : decode cX0_tick 53 = .ok (.iload_n 1, 1) := by decide +kernel
theorem dX0_tick_54 : decode cX0_tick 54 = .ok (.iadd, 1) := by decide +kernel
theorem dX0_tick_55 : decode cX0_tick 55 = .ok (.putfield 115, 3) := by decide +kernel
theorem dX0_tick_58 : decode cX0_tick 58 = .ok (.aload_n 0, 1) := by decide +kernel
theorem dX0_tick_59 : decode cX0_tick 59 = .ok (.getfield 115, 3) := by decide +kernel
theorem dX0_tick_62 : decode cX0_tick 62 = .ok (.ireturn, 1) := by decide +kernel
set_option maxRecDepth 20000 in
theorem ggX0_state_X0_checkRouter : GoodIn wsX0_state wsX0_checkRouter := goodIn_ca (goodIn_r _ [5, 6, 7] (by decide +kernel) (by decide +kernel)) (goodIn_sub (fun _ h => List.mem_cons_of_mem _ (List.mem_append_right _ h)) (by decide +kernel))
set_option maxRecDepth 20000 in
theorem gX0_state_X0_checkRouter : GoodIn wsX0_state (va_wsS RX0 59 yX0_checkRouter wsX0_checkRouter) := goodIn_app (goodIn_of _ (by decide +kernel)) ggX0_state_X0_checkRouter
set_option maxRecDepth 20000 in
theorem ggX0_state_X0_checkGroup : GoodIn wsX0_state wsX0_checkGroup := goodIn_ca (goodIn_r _ [10, 6, 7] (by decide +kernel) (by decide +kernel)) (goodIn_sub (fun _ h => List.mem_cons_of_mem _ (List.mem_append_right _ h)) (by decide +kernel))
set_option maxRecDepth 20000 in
theorem gX0_state_X0_checkGroup : GoodIn wsX0_state (va_wsS RX0 63 yX0_checkGroup wsX0_checkGroup) := goodIn_app (goodIn_of _ (by decide +kernel)) ggX0_state_X0_checkGroup
set_option maxRecDepth 20000 in
theorem ggX0_state_X0_placeOf : GoodIn wsX0_state wsX0_placeOf := goodIn_r _ [13] (by decide +kernel) (by decide +kernel)
set_option maxRecDepth 20000 in
theorem gX0_state_X0_placeOf : GoodIn wsX0_state (va_wsS RX0 70 yX0_placeOf wsX0_placeOf) := goodIn_app (goodIn_of _ (by decide +kernel)) ggX0_state_X0_placeOf
theorem dX0_state_0 : decode cX0_state 0 = .ok (.iload_n 1, 1) := by decide +kernel
theorem dX0_state_1 : decode cX0_state 1 = .ok (.invokestatic 59, 3) := by decide +kernel
theorem dX0_state_4 : decode cX0_state 4 = .ok (.iload_n 2, 1) := by decide +kernel
theorem dX0_state_5 : decode cX0_state 5 = .ok (.invokestatic 63, 3) := by decide +kernel
theorem dX0_state_8 : decode cX0_state 8 = .ok (.aload_n 0, 1) := by decide +kernel
theorem dX0_state_9 : decode cX0_state 9 = .ok (.getfield 41, 3) := by decide +kernel
theorem dX0_state_12 : decode cX0_state 12 = .ok (.iload_n 1, 1) := by decide +kernel
theorem dX0_state_13 : decode cX0_state 13 = .ok (.iload_n 2, 1) := by decide +kernel
theorem dX0_state_14 : decode cX0_state 14 = .ok (.invokestatic 70, 3) := by decide +kernel
theorem dX0_state_17 : decode cX0_state 17 = .ok (.iaload, 1) := by decide +kernel
theorem dX0_state_18 : decode cX0_state 18 = .ok (.ireturn, 1) := by decide +kernel
set_option maxRecDepth 20000 in
theorem ggX0_priority_X0_checkRouter : GoodIn wsX0_priority wsX0_checkRouter := goodIn_ca (goodIn_r _ [5, 6, 7] (by decide +kernel) (by decide +kernel)) (goodIn_sub (fun _ h => List.mem_cons_of_mem _ (List.mem_append_right _ h)) (by decide +kernel))
set_option maxRecDepth 20000 in
theorem gX0_priority_X0_checkRouter : GoodIn wsX0_priority (va_wsS RX0 59 yX0_checkRouter wsX0_checkRouter) := goodIn_app (goodIn_of _ (by decide +kernel)) ggX0_priority_X0_checkRouter
set_option maxRecDepth 20000 in
theorem ggX0_priority_X0_checkGroup : GoodIn wsX0_priority wsX0_checkGroup := goodIn_ca (goodIn_r _ [10, 6, 7] (by decide +kernel) (by decide +kernel)) (goodIn_sub (fun _ h => List.mem_cons_of_mem _ (List.mem_append_right _ h)) (by decide +kernel))
set_option maxRecDepth 20000 in
theorem gX0_priority_X0_checkGroup : GoodIn wsX0_priority (va_wsS RX0 63 yX0_checkGroup wsX0_checkGroup) := goodIn_app (goodIn_of _ (by decide +kernel)) ggX0_priority_X0_checkGroup
set_option maxRecDepth 20000 in
theorem ggX0_priority_X0_placeOf : GoodIn wsX0_priority wsX0_placeOf := goodIn_r _ [13] (by decide +kernel) (by decide +kernel)
set_option maxRecDepth 20000 in
theorem gX0_priority_X0_placeOf : GoodIn wsX0_priority (va_wsS RX0 70 yX0_placeOf wsX0_placeOf) := goodIn_app (goodIn_of _ (by decide +kernel)) ggX0_priority_X0_placeOf
set_option maxRecDepth 20000 in
theorem ggX0_priority_X0_loweredPriority : GoodIn wsX0_priority wsX0_loweredPriority := goodIn_r _ [17, 18, 19, 20, 21, 22, 23, 24, 11, 12, 4, 13, 25, 26, 27, 28, 29, 30, 31, 32, 33, 34, 35, 36, 37, 38, 39, 40, 41, 42, 43, 44, 45] (by decide +kernel) (by decide +kernel)
set_option maxRecDepth 20000 in
theorem gX0_priority_X0_loweredPriority : GoodIn wsX0_priority (wsV RX0 119 RX0 yX0_loweredPriority wsX0_loweredPriority) := goodIn_app (goodIn_of _ (by decide +kernel)) ggX0_priority_X0_loweredPriority
theorem dX0_priority_0 : decode cX0_priority 0 = .ok (.iload_n 1, 1) := by decide +kernel
theorem dX0_priority_1 : decode cX0_priority 1 = .ok (.invokestatic 59, 3) := by decide +kernel
theorem dX0_priority_4 : decode cX0_priority 4 = .ok (.iload_n 2, 1) := by decide +kernel
theorem dX0_priority_5 : decode cX0_priority 5 = .ok (.invokestatic 63, 3) := by decide +kernel
theorem dX0_priority_8 : decode cX0_priority 8 = .ok (.aload_n 0, 1) := by decide +kernel
theorem dX0_priority_9 : decode cX0_priority 9 = .ok (.getfield 41, 3) := by decide +kernel
theorem dX0_priority_12 : decode cX0_priority 12 = .ok (.iload_n 1, 1) := by decide +kernel
theorem dX0_priority_13 : decode cX0_priority 13 = .ok (.iload_n 2, 1) := by decide +kernel
theorem dX0_priority_14 : decode cX0_priority 14 = .ok (.invokestatic 70, 3) := by decide +kernel
theorem dX0_priority_17 : decode cX0_priority 17 = .ok (.iaload, 1) := by decide +kernel
theorem dX0_priority_18 : decode cX0_priority 18 = .ok (.ifCond .ne 7, 3) := by decide +kernel
theorem dX0_priority_21 : decode cX0_priority 21 = .ok (.iconst 0, 1) := by decide +kernel
theorem dX0_priority_22 : decode cX0_priority 22 = .ok (.goto 9, 3) := by decide +kernel
theorem dX0_priority_25 : decode cX0_priority 25 = .ok (.aload_n 0, 1) := by decide +kernel
theorem dX0_priority_26 : decode cX0_priority 26 = .ok (.iload_n 1, 1) := by decide +kernel
theorem dX0_priority_27 : decode cX0_priority 27 = .ok (.iload_n 2, 1) := by decide +kernel
theorem dX0_priority_28 : decode cX0_priority 28 = .ok (.invokevirtual 119, 3) := by decide +kernel
theorem dX0_priority_31 : decode cX0_priority 31 = .ok (.ireturn, 1) := by decide +kernel
set_option maxRecDepth 20000 in
theorem ggX0_timer_X0_checkRouter : GoodIn wsX0_timer wsX0_checkRouter := goodIn_ca (goodIn_r _ [8, 9, 10] (by decide +kernel) (by decide +kernel)) (goodIn_sub (fun _ h => List.mem_cons_of_mem _ (List.mem_append_right _ h)) (by decide +kernel))
set_option maxRecDepth 20000 in
theorem gX0_timer_X0_checkRouter : GoodIn wsX0_timer (va_wsS RX0 59 yX0_checkRouter wsX0_checkRouter) := goodIn_app (goodIn_of _ (by decide +kernel)) ggX0_timer_X0_checkRouter
set_option maxRecDepth 20000 in
theorem ggX0_timer_X0_checkGroup : GoodIn wsX0_timer wsX0_checkGroup := goodIn_ca (goodIn_r _ [13, 9, 10] (by decide +kernel) (by decide +kernel)) (goodIn_sub (fun _ h => List.mem_cons_of_mem _ (List.mem_append_right _ h)) (by decide +kernel))
set_option maxRecDepth 20000 in
theorem gX0_timer_X0_checkGroup : GoodIn wsX0_timer (va_wsS RX0 63 yX0_checkGroup wsX0_checkGroup) := goodIn_app (goodIn_of _ (by decide +kernel)) ggX0_timer_X0_checkGroup
set_option maxRecDepth 20000 in
theorem ggX0_timer_X0_placeOf : GoodIn wsX0_timer wsX0_placeOf := goodIn_r _ [16] (by decide +kernel) (by decide +kernel)
set_option maxRecDepth 20000 in
theorem gX0_timer_X0_placeOf : GoodIn wsX0_timer (va_wsS RX0 70 yX0_placeOf wsX0_placeOf) := goodIn_app (goodIn_of _ (by decide +kernel)) ggX0_timer_X0_placeOf
theorem dX0_timer_0 : decode cX0_timer 0 = .ok (.iload_n 1, 1) := by decide +kernel
theorem dX0_timer_1 : decode cX0_timer 1 = .ok (.invokestatic 59, 3) := by decide +kernel
theorem dX0_timer_4 : decode cX0_timer 4 = .ok (.iload_n 2, 1) := by decide +kernel
theorem dX0_timer_5 : decode cX0_timer 5 = .ok (.invokestatic 63, 3) := by decide +kernel
theorem dX0_timer_8 : decode cX0_timer 8 = .ok (.aload_n 0, 1) := by decide +kernel
theorem dX0_timer_9 : decode cX0_timer 9 = .ok (.getfield 41, 3) := by decide +kernel
theorem dX0_timer_12 : decode cX0_timer 12 = .ok (.iload_n 1, 1) := by decide +kernel
theorem dX0_timer_13 : decode cX0_timer 13 = .ok (.iload_n 2, 1) := by decide +kernel
theorem dX0_timer_14 : decode cX0_timer 14 = .ok (.invokestatic 70, 3) := by decide +kernel
theorem dX0_timer_17 : decode cX0_timer 17 = .ok (.iaload, 1) := by decide +kernel
theorem dX0_timer_18 : decode cX0_timer 18 = .ok (.ifCond .ne 13, 3) := by decide +kernel
theorem dX0_timer_21 : decode cX0_timer 21 = .ok (.new 94, 3) := by decide +kernel
theorem dX0_timer_24 : decode cX0_timer 24 = .ok (.dup, 1) := by decide +kernel
theorem dX0_timer_25 : decode cX0_timer 25 = .ok (.ldc 122, 2) := by decide +kernel
theorem dX0_timer_27 : decode cX0_timer 27 = .ok (.invokespecial 98, 3) := by decide +kernel
theorem dX0_timer_30 : decode cX0_timer 30 = .ok (.athrow, 1) := by decide +kernel
theorem dX0_timer_31 : decode cX0_timer 31 = .ok (.aload_n 0, 1) := by decide +kernel
theorem dX0_timer_32 : decode cX0_timer 32 = .ok (.getfield 44, 3) := by decide +kernel
theorem dX0_timer_35 : decode cX0_timer 35 = .ok (.iload_n 1, 1) := by decide +kernel
theorem dX0_timer_36 : decode cX0_timer 36 = .ok (.iload_n 2, 1) := by decide +kernel
theorem dX0_timer_37 : decode cX0_timer 37 = .ok (.invokestatic 70, 3) := by decide +kernel
theorem dX0_timer_40 : decode cX0_timer 40 = .ok (.iaload, 1) := by decide +kernel
theorem dX0_timer_41 : decode cX0_timer 41 = .ok (.ireturn, 1) := by decide +kernel
set_option maxRecDepth 20000 in
theorem ggX0_masters_X0_checkGroup : GoodIn wsX0_masters wsX0_checkGroup := goodIn_ca (goodIn_r _ [4, 5, 6] (by decide +kernel) (by decide +kernel)) (goodIn_sub (fun _ h => List.mem_cons_of_mem _ (List.mem_append_right _ h)) (by decide +kernel))
set_option maxRecDepth 20000 in
theorem gX0_masters_X0_checkGroup : GoodIn wsX0_masters (va_wsS RX0 63 yX0_checkGroup wsX0_checkGroup) := goodIn_app (goodIn_of _ (by decide +kernel)) ggX0_masters_X0_checkGroup
set_option maxRecDepth 20000 in
theorem ggX0_masters_X0_membersWith : GoodIn wsX0_masters wsX0_membersWith := goodIn_r _ [10, 11, 12, 13, 3, 14, 15, 16, 17, 18, 19, 20, 21, 22, 23, 24, 25, 26, 27, 28, 29, 30, 31, 32] (by decide +kernel) (by decide +kernel)
set_option maxRecDepth 20000 in
theorem gX0_masters_X0_membersWith : GoodIn wsX0_masters (wsV RX0 124 RX0 yX0_membersWith wsX0_membersWith) := goodIn_app (goodIn_of _ (by decide +kernel)) ggX0_masters_X0_membersWith
theorem dX0_masters_0 : decode cX0_masters 0 = .ok (.iload_n 1, 1) := by decide +kernel
theorem dX0_masters_1 : decode cX0_masters 1 = .ok (.invokestatic 63, 3) := by decide +kernel
theorem dX0_masters_4 : decode cX0_masters 4 = .ok (.aload_n 0, 1) := by decide +kernel
theorem dX0_masters_5 : decode cX0_masters 5 = .ok (.iconst 2, 1) := by decide +kernel
theorem dX0_masters_6 : decode cX0_masters 6 = .ok (.iload_n 1, 1) := by decide +kernel
theorem dX0_masters_7 : decode cX0_masters 7 = .ok (.invokevirtual 124, 3) := by decide +kernel
theorem dX0_masters_10 : decode cX0_masters 10 = .ok (.ireturn, 1) := by decide +kernel
set_option maxRecDepth 20000 in
theorem ggX0_changes_X0_checkRouter : GoodIn wsX0_changes wsX0_checkRouter := goodIn_ca (goodIn_r _ [5, 6, 7] (by decide +kernel) (by decide +kernel)) (goodIn_sub (fun _ h => List.mem_cons_of_mem _ (List.mem_append_right _ h)) (by decide +kernel))
set_option maxRecDepth 20000 in
theorem gX0_changes_X0_checkRouter : GoodIn wsX0_changes (va_wsS RX0 59 yX0_checkRouter wsX0_checkRouter) := goodIn_app (goodIn_of _ (by decide +kernel)) ggX0_changes_X0_checkRouter
set_option maxRecDepth 20000 in
theorem ggX0_changes_X0_checkGroup : GoodIn wsX0_changes wsX0_checkGroup := goodIn_ca (goodIn_r _ [10, 6, 7] (by decide +kernel) (by decide +kernel)) (goodIn_sub (fun _ h => List.mem_cons_of_mem _ (List.mem_append_right _ h)) (by decide +kernel))
set_option maxRecDepth 20000 in
theorem gX0_changes_X0_checkGroup : GoodIn wsX0_changes (va_wsS RX0 63 yX0_checkGroup wsX0_checkGroup) := goodIn_app (goodIn_of _ (by decide +kernel)) ggX0_changes_X0_checkGroup
set_option maxRecDepth 20000 in
theorem ggX0_changes_X0_placeOf : GoodIn wsX0_changes wsX0_placeOf := goodIn_r _ [13] (by decide +kernel) (by decide +kernel)
set_option maxRecDepth 20000 in
theorem gX0_changes_X0_placeOf : GoodIn wsX0_changes (va_wsS RX0 70 yX0_placeOf wsX0_placeOf) := goodIn_app (goodIn_of _ (by decide +kernel)) ggX0_changes_X0_placeOf
theorem dX0_changes_0 : decode cX0_changes 0 = .ok (.iload_n 1, 1) := by decide +kernel
theorem dX0_changes_1 : decode cX0_changes 1 = .ok (.invokestatic 59, 3) := by decide +kernel
theorem dX0_changes_4 : decode cX0_changes 4 = .ok (.iload_n 2, 1) := by decide +kernel
theorem dX0_changes_5 : decode cX0_changes 5 = .ok (.invokestatic 63, 3) := by decide +kernel
theorem dX0_changes_8 : decode cX0_changes 8 = .ok (.aload_n 0, 1) := by decide +kernel
theorem dX0_changes_9 : decode cX0_changes 9 = .ok (.getfield 53, 3) := by decide +kernel
theorem dX0_changes_12 : decode cX0_changes 12 = .ok (.iload_n 1, 1) := by decide +kernel
theorem dX0_changes_13 : decode cX0_changes 13 = .ok (.iload_n 2, 1) := by decide +kernel
theorem dX0_changes_14 : decode cX0_changes 14 = .ok (.invokestatic 70, 3) := by decide +kernel
theorem dX0_changes_17 : decode cX0_changes 17 = .ok (.iaload, 1) := by decide +kernel
theorem dX0_changes_18 : decode cX0_changes 18 = .ok (.ireturn, 1) := by decide +kernel
set_option maxRecDepth 20000 in
theorem ggX0_gaps_X0_checkGroup : GoodIn wsX0_gaps wsX0_checkGroup := goodIn_ca (goodIn_r _ [5, 6, 7] (by decide +kernel) (by decide +kernel)) (goodIn_sub (fun _ h => List.mem_cons_of_mem _ (List.mem_append_right _ h)) (by decide +kernel))
set_option maxRecDepth 20000 in
theorem gX0_gaps_X0_checkGroup : GoodIn wsX0_gaps (va_wsS RX0 63 yX0_checkGroup wsX0_checkGroup) := goodIn_app (goodIn_of _ (by decide +kernel)) ggX0_gaps_X0_checkGroup
theorem dX0_gaps_0 : decode cX0_gaps 0 = .ok (.iload_n 1, 1) := by decide +kernel
theorem dX0_gaps_1 : decode cX0_gaps 1 = .ok (.invokestatic 63, 3) := by decide +kernel
theorem dX0_gaps_4 : decode cX0_gaps 4 = .ok (.aload_n 0, 1) := by decide +kernel
theorem dX0_gaps_5 : decode cX0_gaps 5 = .ok (.getfield 32, 3) := by decide +kernel
theorem dX0_gaps_8 : decode cX0_gaps 8 = .ok (.iload_n 1, 1) := by decide +kernel
theorem dX0_gaps_9 : decode cX0_gaps 9 = .ok (.iaload, 1) := by decide +kernel
theorem dX0_gaps_10 : decode cX0_gaps 10 = .ok (.ireturn, 1) := by decide +kernel
set_option maxRecDepth 20000 in
theorem ggX0_sent_X0_checkGroup : GoodIn wsX0_sent wsX0_checkGroup := goodIn_ca (goodIn_r _ [5, 6, 7] (by decide +kernel) (by decide +kernel)) (goodIn_sub (fun _ h => List.mem_cons_of_mem _ (List.mem_append_right _ h)) (by decide +kernel))
set_option maxRecDepth 20000 in
theorem gX0_sent_X0_checkGroup : GoodIn wsX0_sent (va_wsS RX0 63 yX0_checkGroup wsX0_checkGroup) := goodIn_app (goodIn_of _ (by decide +kernel)) ggX0_sent_X0_checkGroup
theorem dX0_sent_0 : decode cX0_sent 0 = .ok (.iload_n 1, 1) := by decide +kernel
theorem dX0_sent_1 : decode cX0_sent 1 = .ok (.invokestatic 63, 3) := by decide +kernel
theorem dX0_sent_4 : decode cX0_sent 4 = .ok (.aload_n 0, 1) := by decide +kernel
theorem dX0_sent_5 : decode cX0_sent 5 = .ok (.getfield 35, 3) := by decide +kernel
theorem dX0_sent_8 : decode cX0_sent 8 = .ok (.iload_n 1, 1) := by decide +kernel
theorem dX0_sent_9 : decode cX0_sent 9 = .ok (.iaload, 1) := by decide +kernel
theorem dX0_sent_10 : decode cX0_sent 10 = .ok (.ireturn, 1) := by decide +kernel
set_option maxRecDepth 20000 in
theorem ggX0_known_X0_checkRouter : GoodIn wsX0_known wsX0_checkRouter := goodIn_ca (goodIn_r _ [5, 6, 7] (by decide +kernel) (by decide +kernel)) (goodIn_sub (fun _ h => List.mem_cons_of_mem _ (List.mem_append_right _ h)) (by decide +kernel))
set_option maxRecDepth 20000 in
theorem gX0_known_X0_checkRouter : GoodIn wsX0_known (va_wsS RX0 59 yX0_checkRouter wsX0_checkRouter) := goodIn_app (goodIn_of _ (by decide +kernel)) ggX0_known_X0_checkRouter
set_option maxRecDepth 20000 in
theorem ggX0_known_X0_checkGroup : GoodIn wsX0_known wsX0_checkGroup := goodIn_ca (goodIn_r _ [10, 6, 7] (by decide +kernel) (by decide +kernel)) (goodIn_sub (fun _ h => List.mem_cons_of_mem _ (List.mem_append_right _ h)) (by decide +kernel))
set_option maxRecDepth 20000 in
theorem gX0_known_X0_checkGroup : GoodIn wsX0_known (va_wsS RX0 63 yX0_checkGroup wsX0_checkGroup) := goodIn_app (goodIn_of _ (by decide +kernel)) ggX0_known_X0_checkGroup
set_option maxRecDepth 20000 in
theorem ggX0_known_X0_placeOf : GoodIn wsX0_known wsX0_placeOf := goodIn_r _ [13] (by decide +kernel) (by decide +kernel)
set_option maxRecDepth 20000 in
theorem gX0_known_X0_placeOf : GoodIn wsX0_known (va_wsS RX0 70 yX0_placeOf wsX0_placeOf) := goodIn_app (goodIn_of _ (by decide +kernel)) ggX0_known_X0_placeOf
theorem dX0_known_0 : decode cX0_known 0 = .ok (.iload_n 1, 1) := by decide +kernel
theorem dX0_known_1 : decode cX0_known 1 = .ok (.invokestatic 59, 3) := by decide +kernel
theorem dX0_known_4 : decode cX0_known 4 = .ok (.iload_n 2, 1) := by decide +kernel
theorem dX0_known_5 : decode cX0_known 5 = .ok (.invokestatic 63, 3) := by decide +kernel
theorem dX0_known_8 : decode cX0_known 8 = .ok (.aload_n 0, 1) := by decide +kernel
theorem dX0_known_9 : decode cX0_known 9 = .ok (.getfield 50, 3) := by decide +kernel
theorem dX0_known_12 : decode cX0_known 12 = .ok (.iload_n 1, 1) := by decide +kernel
theorem dX0_known_13 : decode cX0_known 13 = .ok (.iload_n 2, 1) := by decide +kernel
theorem dX0_known_14 : decode cX0_known 14 = .ok (.invokestatic 70, 3) := by decide +kernel
theorem dX0_known_17 : decode cX0_known 17 = .ok (.iaload, 1) := by decide +kernel
theorem dX0_known_18 : decode cX0_known 18 = .ok (.ireturn, 1) := by decide +kernel
theorem dX0_repairs_0 : decode cX0_repairs 0 = .ok (.aload_n 0, 1) := by decide +kernel
theorem dX0_repairs_1 : decode cX0_repairs 1 = .ok (.getfield 127, 3) := by decide +kernel
theorem dX0_repairs_4 : decode cX0_repairs 4 = .ok (.ireturn, 1) := by decide +kernel
set_option maxRecDepth 20000 in
theorem ggX0_isSettled_X0_checkGroup : GoodIn wsX0_isSettled wsX0_checkGroup := goodIn_ca (goodIn_r _ [4, 5, 6] (by decide +kernel) (by decide +kernel)) (goodIn_sub (fun _ h => List.mem_cons_of_mem _ (List.mem_append_right _ h)) (by decide +kernel))
set_option maxRecDepth 20000 in
theorem gX0_isSettled_X0_checkGroup : GoodIn wsX0_isSettled (va_wsS RX0 63 yX0_checkGroup wsX0_checkGroup) := goodIn_app (goodIn_of _ (by decide +kernel)) ggX0_isSettled_X0_checkGroup
set_option maxRecDepth 20000 in
theorem ggX0_isSettled_X0_membersWith : GoodIn wsX0_isSettled wsX0_membersWith := goodIn_r _ [10, 11, 12, 13, 3, 14, 20, 21, 22, 23, 24, 25, 26, 27, 28, 29, 30, 31, 32, 33, 34, 35, 36, 37] (by decide +kernel) (by decide +kernel)
set_option maxRecDepth 20000 in
theorem gX0_isSettled_X0_membersWith : GoodIn wsX0_isSettled (wsV RX0 124 RX0 yX0_membersWith wsX0_membersWith) := goodIn_app (goodIn_of _ (by decide +kernel)) ggX0_isSettled_X0_membersWith
set_option maxRecDepth 20000 in
theorem ggX0_isSettled_X0_hasJoinedMasters : GoodIn wsX0_isSettled wsX0_hasJoinedMasters := goodIn_r _ [18, 11, 19, 12, 13, 3, 14, 20, 21, 22, 23, 24, 25, 26, 27, 28, 29, 30, 31, 32, 33, 34, 35, 36, 37] (by decide +kernel) (by decide +kernel)
set_option maxRecDepth 20000 in
theorem gX0_isSettled_X0_hasJoinedMasters : GoodIn wsX0_isSettled (wsV RX0 130 RX0 yX0_hasJoinedMasters wsX0_hasJoinedMasters) := goodIn_app (goodIn_of _ (by decide +kernel)) ggX0_isSettled_X0_hasJoinedMasters
theorem dX0_isSettled_0 : decode cX0_isSettled 0 = .ok (.iload_n 1, 1) := by decide +kernel
theorem dX0_isSettled_1 : decode cX0_isSettled 1 = .ok (.invokestatic 63, 3) := by decide +kernel
theorem dX0_isSettled_4 : decode cX0_isSettled 4 = .ok (.aload_n 0, 1) := by decide +kernel
theorem dX0_isSettled_5 : decode cX0_isSettled 5 = .ok (.iconst 2, 1) := by decide +kernel
theorem dX0_isSettled_6 : decode cX0_isSettled 6 = .ok (.iload_n 1, 1) := by decide +kernel
theorem dX0_isSettled_7 : decode cX0_isSettled 7 = .ok (.invokevirtual 124, 3) := by decide +kernel
theorem dX0_isSettled_10 : decode cX0_isSettled 10 = .ok (.ifCond .ne 18, 3) := by decide +kernel
theorem dX0_isSettled_13 : decode cX0_isSettled 13 = .ok (.aload_n 0, 1) := by decide +kernel
theorem dX0_isSettled_14 : decode cX0_isSettled 14 = .ok (.iconst 1, 1) := by decide +kernel
theorem dX0_isSettled_15 : decode cX0_isSettled 15 = .ok (.iload_n 1, 1) := by decide +kernel
theorem dX0_isSettled_16 : decode cX0_isSettled 16 = .ok (.invokevirtual 124, 3) := by decide +kernel
theorem dX0_isSettled_19 : decode cX0_isSettled 19 = .ok (.ifCond .ne 7, 3) := by decide +kernel
theorem dX0_isSettled_22 : decode cX0_isSettled 22 = .ok (.iconst 1, 1) := by decide +kernel
theorem dX0_isSettled_23 : decode cX0_isSettled 23 = .ok (.goto 4, 3) := by decide +kernel
theorem dX0_isSettled_26 : decode cX0_isSettled 26 = .ok (.iconst 0, 1) := by decide +kernel
theorem dX0_isSettled_27 : decode cX0_isSettled 27 = .ok (.ireturn, 1) := by decide +kernel
theorem dX0_isSettled_28 : decode cX0_isSettled 28 = .ok (.aload_n 0, 1) := by decide +kernel
theorem dX0_isSettled_29 : decode cX0_isSettled 29 = .ok (.iload_n 1, 1) := by decide +kernel
theorem dX0_isSettled_30 : decode cX0_isSettled 30 = .ok (.invokevirtual 130, 3) := by decide +kernel
theorem dX0_isSettled_33 : decode cX0_isSettled 33 = .ok (.ifCond .ne 7, 3) := by decide +kernel
theorem dX0_isSettled_36 : decode cX0_isSettled 36 = .ok (.iconst 1, 1) := by decide +kernel
theorem dX0_isSettled_37 : decode cX0_isSettled 37 = .ok (.goto 4, 3) := by decide +kernel
theorem dX0_isSettled_40 : decode cX0_isSettled 40 = .ok (.iconst 0, 1) := by decide +kernel
theorem dX0_isSettled_41 : decode cX0_isSettled 41 = .ok (.ireturn, 1) := by decide +kernel
set_option maxRecDepth 20000 in
theorem ggX0_runMasters_X0_placeOf : GoodIn wsX0_runMasters wsX0_placeOf := goodIn_r _ [7] (by decide +kernel) (by decide +kernel)
set_option maxRecDepth 20000 in
theorem gX0_runMasters_X0_placeOf : GoodIn wsX0_runMasters (va_wsS RX0 70 yX0_placeOf wsX0_placeOf) := goodIn_app (goodIn_of _ (by decide +kernel)) ggX0_runMasters_X0_placeOf
set_option maxRecDepth 20000 in
theorem ggX0_runMasters_X0_loweredPriority : GoodIn wsX0_runMasters wsX0_loweredPriority := goodIn_r _ [11, 12, 13, 14, 15, 16, 17, 18, 4, 5, 6, 7, 19, 20, 21, 58, 59, 60, 61, 62, 63, 64, 65, 66, 67, 68, 69, 70, 71, 72, 73, 74, 75] (by decide +kernel) (by decide +kernel)
set_option maxRecDepth 20000 in
theorem gX0_runMasters_X0_loweredPriority : GoodIn wsX0_runMasters (wsV RX0 119 RX0 yX0_loweredPriority wsX0_loweredPriority) := goodIn_app (goodIn_of _ (by decide +kernel)) ggX0_runMasters_X0_loweredPriority
set_option maxRecDepth 20000 in
theorem ggX0_runMasters_X0_advertise : GoodIn wsX0_runMasters wsX0_advertise := goodIn_r _ [25, 26, 27, 1, 4, 5, 6, 7, 28, 29, 30, 31, 8, 9, 10, 11, 12, 13, 14, 15, 16, 17, 18, 19, 20, 21, 32, 33, 34, 35, 36, 2, 37, 38, 39, 40, 3, 41, 42, 43, 44, 45, 46, 47, 48, 49, 50, 51, 52, 53, 54, 55, 56, 57, 58, 59, 60, 61, 62, 63, 64, 65, 66, 67, 68, 69, 70, 71, 72, 73, 74, 75] (by decide +kernel) (by decide +kernel)
set_option maxRecDepth 20000 in
theorem gX0_runMasters_X0_advertise : GoodIn wsX0_runMasters (wsV RX0 74 RX0 yX0_advertise wsX0_advertise) := goodIn_app (goodIn_of _ (by decide +kernel)) ggX0_runMasters_X0_advertise
theorem dX0_runMasters_0 : decode cX0_runMasters 0 = .ok (.iconst 0, 1) := by decide +kernel
theorem dX0_runMasters_1 : decode cX0_runMasters 1 = .ok (.istore_n 2, 1) := by decide +kernel
theorem dX0_runMasters_2 : decode cX0_runMasters 2 = .ok (.iload_n 2, 1) := by decide +kernel
theorem dX0_runMasters_3 : decode cX0_runMasters 3 = .ok (.iconst 4, 1) := by decide +kernel
theorem dX0_runMasters_4 : decode cX0_runMasters 4 = .ok (.if_icmp .ge 68, 3) := by decide +kernel
theorem dX0_runMasters_7 : decode cX0_runMasters 7 = .ok (.iload_n 2, 1) := by decide +kernel
theorem dX0_runMasters_8 : decode cX0_runMasters 8 = .ok (.iload_n 1, 1) := by decide +kernel
theorem dX0_runMasters_9 : decode cX0_runMasters 9 = .ok (.invokestatic 70, 3) := by decide +kernel
theorem dX0_runMasters_12 : decode cX0_runMasters 12 = .ok (.istore_n 3, 1) := by decide +kernel
theorem dX0_runMasters_13 : decode cX0_runMasters 13 = .ok (.aload_n 0, 1) := by decide +kernel
theorem dX0_runMasters_14 : decode cX0_runMasters 14 = .ok (.getfield 41, 3) := by decide +kernel
theorem dX0_runMasters_17 : decode cX0_runMasters 17 = .ok (.iload_n 3, 1) := by decide +kernel
theorem dX0_runMasters_18 : decode cX0_runMasters 18 = .ok (.iaload, 1) := by decide +kernel
theorem dX0_runMasters_19 : decode cX0_runMasters 19 = .ok (.iconst 2, 1) := by decide +kernel
theorem dX0_runMasters_20 : decode cX0_runMasters 20 = .ok (.if_icmp .ne 46, 3) := by decide +kernel
theorem dX0_runMasters_23 : decode cX0_runMasters 23 = .ok (.aload_n 0, 1) := by decide +kernel
theorem dX0_runMasters_24 : decode cX0_runMasters 24 = .ok (.getfield 44, 3) := by decide +kernel
theorem dX0_runMasters_27 : decode cX0_runMasters 27 = .ok (.iload_n 3, 1) := by decide +kernel
theorem dX0_runMasters_28 : decode cX0_runMasters 28 = .ok (.dup2, 1) := by decide +kernel
theorem dX0_runMasters_29 : decode cX0_runMasters 29 = .ok (.iaload, 1) := by decide +kernel
theorem dX0_runMasters_30 : decode cX0_runMasters 30 = .ok (.iconst 1, 1) := by decide +kernel
theorem dX0_runMasters_31 : decode cX0_runMasters 31 = .ok (.isub, 1) := by decide +kernel
theorem dX0_runMasters_32 : decode cX0_runMasters 32 = .ok (.iastore, 1) := by decide +kernel
theorem dX0_runMasters_33 : decode cX0_runMasters 33 = .ok (.aload_n 0, 1) := by decide +kernel
theorem dX0_runMasters_34 : decode cX0_runMasters 34 = .ok (.getfield 44, 3) := by decide +kernel
theorem dX0_runMasters_37 : decode cX0_runMasters 37 = .ok (.iload_n 3, 1) := by decide +kernel
theorem dX0_runMasters_38 : decode cX0_runMasters 38 = .ok (.iaload, 1) := by decide +kernel
theorem dX0_runMasters_39 : decode cX0_runMasters 39 = .ok (.ifCond .ne 27, 3) := by decide +kernel
theorem dX0_runMasters_42 : decode cX0_runMasters 42 = .ok (.aload_n 0, 1) := by decide +kernel
theorem dX0_runMasters_43 : decode cX0_runMasters 43 = .ok (.iload_n 2, 1) := by decide +kernel
theorem dX0_runMasters_44 : decode cX0_runMasters 44 = .ok (.iload_n 1, 1) := by decide +kernel
theorem dX0_runMasters_45 : decode cX0_runMasters 45 = .ok (.aload_n 0, 1) := by decide +kernel
theorem dX0_runMasters_46 : decode cX0_runMasters 46 = .ok (.iload_n 2, 1) := by decide +kernel
theorem dX0_runMasters_47 : decode cX0_runMasters 47 = .ok (.iload_n 1, 1) := by decide +kernel
theorem dX0_runMasters_48 : decode cX0_runMasters 48 = .ok (.invokevirtual 119, 3) := by decide +kernel
theorem dX0_runMasters_51 : decode cX0_runMasters 51 = .ok (.invokevirtual 74, 3) := by decide +kernel
theorem dX0_runMasters_54 : decode cX0_runMasters 54 = .ok (.aload_n 0, 1) := by decide +kernel
theorem dX0_runMasters_55 : decode cX0_runMasters 55 = .ok (.getfield 44, 3) := by decide +kernel
theorem dX0_runMasters_58 : decode cX0_runMasters 58 = .ok (.iload_n 3, 1) := by decide +kernel
theorem dX0_runMasters_59 : decode cX0_runMasters 59 = .ok (.aload_n 0, 1) := by decide +kernel
theorem dX0_runMasters_60 : decode cX0_runMasters 60 = .ok (.getfield 23, 3) := by decide +kernel
theorem dX0_runMasters_63 : decode cX0_runMasters 63 = .ok (.iload_n 1, 1) := by decide +kernel
theorem dX0_runMasters_64 : decode cX0_runMasters 64 = .ok (.iaload, 1) := by decide +kernel
theorem dX0_runMasters_65 : decode cX0_runMasters 65 = .ok (.iastore, 1) := by decide +kernel
theorem dX0_runMasters_66 : decode cX0_runMasters 66 = .ok (.iinc 2 1, 3) := by decide +kernel
theorem dX0_runMasters_69 : decode cX0_runMasters 69 = .ok (.goto (-67), 3) := by decide +kernel
theorem dX0_runMasters_72 : decode cX0_runMasters 72 = .ok (.return_, 1) := by decide +kernel
set_option maxRecDepth 20000 in
theorem ggX0_runBackups_X0_placeOf : GoodIn wsX0_runBackups wsX0_placeOf := goodIn_r _ [8] (by decide +kernel) (by decide +kernel)
set_option maxRecDepth 20000 in
theorem gX0_runBackups_X0_placeOf : GoodIn wsX0_runBackups (va_wsS RX0 70 yX0_placeOf wsX0_placeOf) := goodIn_app (goodIn_of _ (by decide +kernel)) ggX0_runBackups_X0_placeOf
set_option maxRecDepth 20000 in
theorem ggX0_runBackups_X0_loweredPriority : GoodIn wsX0_runBackups wsX0_loweredPriority := goodIn_r _ [12, 13, 14, 15, 16, 17, 18, 19, 5, 6, 7, 8, 20, 21, 22, 59, 60, 61, 62, 63, 64, 65, 66, 67, 68, 69, 70, 71, 72, 73, 74, 75, 76] (by decide +kernel) (by decide +kernel)
set_option maxRecDepth 20000 in
theorem gX0_runBackups_X0_loweredPriority : GoodIn wsX0_runBackups (wsV RX0 119 RX0 yX0_loweredPriority wsX0_loweredPriority) := goodIn_app (goodIn_of _ (by decide +kernel)) ggX0_runBackups_X0_loweredPriority
set_option maxRecDepth 20000 in
theorem ggX0_runBackups_X0_advertise : GoodIn wsX0_runBackups wsX0_advertise := goodIn_r _ [26, 27, 28, 1, 5, 6, 7, 8, 29, 30, 31, 32, 9, 10, 11, 12, 13, 14, 15, 16, 17, 18, 19, 20, 21, 22, 33, 34, 35, 36, 37, 2, 38, 39, 40, 41, 4, 42, 43, 44, 45, 46, 47, 48, 49, 50, 51, 52, 53, 54, 55, 56, 57, 58, 59, 60, 61, 62, 63, 64, 65, 66, 67, 68, 69, 70, 71, 72, 73, 74, 75, 76] (by decide +kernel) (by decide +kernel)
set_option maxRecDepth 20000 in
theorem gX0_runBackups_X0_advertise : GoodIn wsX0_runBackups (wsV RX0 74 RX0 yX0_advertise wsX0_advertise) := goodIn_app (goodIn_of _ (by decide +kernel)) ggX0_runBackups_X0_advertise
theorem dX0_runBackups_0 : decode cX0_runBackups 0 = .ok (.iconst 0, 1) := by decide +kernel
theorem dX0_runBackups_1 : decode cX0_runBackups 1 = .ok (.istore_n 2, 1) := by decide +kernel
theorem dX0_runBackups_2 : decode cX0_runBackups 2 = .ok (.iload_n 2, 1) := by decide +kernel
theorem dX0_runBackups_3 : decode cX0_runBackups 3 = .ok (.iconst 4, 1) := by decide +kernel
theorem dX0_runBackups_4 : decode cX0_runBackups 4 = .ok (.if_icmp .ge 85, 3) := by decide +kernel
theorem dX0_runBackups_7 : decode cX0_runBackups 7 = .ok (.iload_n 2, 1) := by decide +kernel
theorem dX0_runBackups_8 : decode cX0_runBackups 8 = .ok (.iload_n 1, 1) := by decide +kernel
theorem dX0_runBackups_9 : decode cX0_runBackups 9 = .ok (.invokestatic 70, 3) := by decide +kernel
theorem dX0_runBackups_12 : decode cX0_runBackups 12 = .ok (.istore_n 3, 1) := by decide +kernel
theorem dX0_runBackups_13 : decode cX0_runBackups 13 = .ok (.aload_n 0, 1) := by decide +kernel
theorem dX0_runBackups_14 : decode cX0_runBackups 14 = .ok (.getfield 41, 3) := by decide +kernel
theorem dX0_runBackups_17 : decode cX0_runBackups 17 = .ok (.iload_n 3, 1) := by decide +kernel
theorem dX0_runBackups_18 : decode cX0_runBackups 18 = .ok (.iaload, 1) := by decide +kernel
theorem dX0_runBackups_19 : decode cX0_runBackups 19 = .ok (.iconst 1, 1) := by decide +kernel
theorem dX0_runBackups_20 : decode cX0_runBackups 20 = .ok (.if_icmp .ne 63, 3) := by decide +kernel
theorem dX0_runBackups_23 : decode cX0_runBackups 23 = .ok (.aload_n 0, 1) := by decide +kernel
theorem dX0_runBackups_24 : decode cX0_runBackups 24 = .ok (.getfield 44, 3) := by decide +kernel
theorem dX0_runBackups_27 : decode cX0_runBackups 27 = .ok (.iload_n 3, 1) := by decide +kernel
theorem dX0_runBackups_28 : decode cX0_runBackups 28 = .ok (.dup2, 1) := by decide +kernel
theorem dX0_runBackups_29 : decode cX0_runBackups 29 = .ok (.iaload, 1) := by decide +kernel
theorem dX0_runBackups_30 : decode cX0_runBackups 30 = .ok (.iconst 1, 1) := by decide +kernel
theorem dX0_runBackups_31 : decode cX0_runBackups 31 = .ok (.isub, 1) := by decide +kernel
theorem dX0_runBackups_32 : decode cX0_runBackups 32 = .ok (.iastore, 1) := by decide +kernel
theorem dX0_runBackups_33 : decode cX0_runBackups 33 = .ok (.aload_n 0, 1) := by decide +kernel
theorem dX0_runBackups_34 : decode cX0_runBackups 34 = .ok (.getfield 44, 3) := by decide +kernel
theorem dX0_runBackups_37 : decode cX0_runBackups 37 = .ok (.iload_n 3, 1) := by decide +kernel
theorem dX0_runBackups_38 : decode cX0_runBackups 38 = .ok (.iaload, 1) := by decide +kernel
theorem dX0_runBackups_39 : decode cX0_runBackups 39 = .ok (.ifCond .ne 44, 3) := by decide +kernel
theorem dX0_runBackups_42 : decode cX0_runBackups 42 = .ok (.aload_n 0, 1) := by decide +kernel
theorem dX0_runBackups_43 : decode cX0_runBackups 43 = .ok (.getfield 41, 3) := by decide +kernel
theorem dX0_runBackups_46 : decode cX0_runBackups 46 = .ok (.iload_n 3, 1) := by decide +kernel
theorem dX0_runBackups_47 : decode cX0_runBackups 47 = .ok (.iconst 2, 1) := by decide +kernel
theorem dX0_runBackups_48 : decode cX0_runBackups 48 = .ok (.iastore, 1) := by decide +kernel
theorem dX0_runBackups_49 : decode cX0_runBackups 49 = .ok (.aload_n 0, 1) := by decide +kernel
theorem dX0_runBackups_50 : decode cX0_runBackups 50 = .ok (.getfield 53, 3) := by decide +kernel
theorem dX0_runBackups_53 : decode cX0_runBackups 53 = .ok (.iload_n 3, 1) := by decide +kernel
theorem dX0_runBackups_54 : decode cX0_runBackups 54 = .ok (.dup2, 1) := by decide +kernel
theorem dX0_runBackups_55 : decode cX0_runBackups 55 = .ok (.iaload, 1) := by decide +kernel
theorem dX0_runBackups_56 : decode cX0_runBackups 56 = .ok (.iconst 1, 1) := by decide +kernel
theorem dX0_runBackups_57 : decode cX0_runBackups 57 = .ok (.iadd, 1) := by decide +kernel
theorem dX0_runBackups_58 : decode cX0_runBackups 58 = .ok (.iastore, 1) := by decide +kernel
theorem dX0_runBackups_59 : decode cX0_runBackups 59 = .ok (.aload_n 0, 1) := by decide +kernel
theorem dX0_runBackups_60 : decode cX0_runBackups 60 = .ok (.iload_n 2, 1) := by decide +kernel
theorem dX0_runBackups_61 : decode cX0_runBackups 61 = .ok (.iload_n 1, 1) := by decide +kernel
theorem dX0_runBackups_62 : decode cX0_runBackups 62 = .ok (.aload_n 0, 1) := by decide +kernel
theorem dX0_runBackups_63 : decode cX0_runBackups 63 = .ok (.iload_n 2, 1) := by decide +kernel
theorem dX0_runBackups_64 : decode cX0_runBackups 64 = .ok (.iload_n 1, 1) := by decide +kernel
theorem dX0_runBackups_65 : decode cX0_runBackups 65 = .ok (.invokevirtual 119, 3) := by decide +kernel
theorem dX0_runBackups_68 : decode cX0_runBackups 68 = .ok (.invokevirtual 74, 3) := by decide +kernel
theorem dX0_runBackups_71 : decode cX0_runBackups 71 = .ok (.aload_n 0, 1) := by decide +kernel
theorem dX0_runBackups_72 : decode cX0_runBackups 72 = .ok (.getfield 44, 3) := by decide +kernel
theorem dX0_runBackups_75 : decode cX0_runBackups 75 = .ok (.iload_n 3, 1) := by decide +kernel
theorem dX0_runBackups_76 : decode cX0_runBackups 76 = .ok (.aload_n 0, 1) := by decide +kernel
theorem dX0_runBackups_77 : decode cX0_runBackups 77 = .ok (.getfield 23, 3) := by decide +kernel
theorem dX0_runBackups_80 : decode cX0_runBackups 80 = .ok (.iload_n 1, 1) := by decide +kernel
theorem dX0_runBackups_81 : decode cX0_runBackups 81 = .ok (.iaload, 1) := by decide +kernel
theorem dX0_runBackups_82 : decode cX0_runBackups 82 = .ok (.iastore, 1) := by decide +kernel
theorem dX0_runBackups_83 : decode cX0_runBackups 83 = .ok (.iinc 2 1, 3) := by decide +kernel
theorem dX0_runBackups_86 : decode cX0_runBackups 86 = .ok (.goto (-84), 3) := by decide +kernel
theorem dX0_runBackups_89 : decode cX0_runBackups 89 = .ok (.return_, 1) := by decide +kernel
set_option maxRecDepth 20000 in
theorem ggX0_noteGap_X0_membersWith : GoodIn wsX0_noteGap wsX0_membersWith := goodIn_r _ [6, 7, 8, 9, 5, 10, 11, 12, 13, 14, 15, 16, 17, 18, 19, 20, 21, 22, 23, 24, 25, 26, 27, 28] (by decide +kernel) (by decide +kernel)
set_option maxRecDepth 20000 in
theorem gX0_noteGap_X0_membersWith : GoodIn wsX0_noteGap (wsV RX0 124 RX0 yX0_membersWith wsX0_membersWith) := goodIn_app (goodIn_of _ (by decide +kernel)) ggX0_noteGap_X0_membersWith
theorem dX0_noteGap_0 : decode cX0_noteGap 0 = .ok (.aload_n 0, 1) := by decide +kernel
theorem dX0_noteGap_1 : decode cX0_noteGap 1 = .ok (.iconst 2, 1) := by decide +kernel
theorem dX0_noteGap_2 : decode cX0_noteGap 2 = .ok (.iload_n 1, 1) := by decide +kernel
theorem dX0_noteGap_3 : decode cX0_noteGap 3 = .ok (.invokevirtual 124, 3) := by decide +kernel
theorem dX0_noteGap_6 : decode cX0_noteGap 6 = .ok (.ifCond .ne 13, 3) := by decide +kernel
theorem dX0_noteGap_9 : decode cX0_noteGap 9 = .ok (.aload_n 0, 1) := by decide +kernel
theorem dX0_noteGap_10 : decode cX0_noteGap 10 = .ok (.getfield 32, 3) := by decide +kernel
theorem dX0_noteGap_13 : decode cX0_noteGap 13 = .ok (.iload_n 1, 1) := by decide +kernel
theorem dX0_noteGap_14 : decode cX0_noteGap 14 = .ok (.dup2, 1) := by decide +kernel
theorem dX0_noteGap_15 : decode cX0_noteGap 15 = .ok (.iaload, 1) := by decide +kernel
theorem dX0_noteGap_16 : decode cX0_noteGap 16 = .ok (.iconst 1, 1) := by decide +kernel
theorem dX0_noteGap_17 : decode cX0_noteGap 17 = .ok (.iadd, 1) := by decide +kernel
theorem dX0_noteGap_18 : decode cX0_noteGap 18 = .ok (.iastore, 1) := by decide +kernel
theorem dX0_noteGap_19 : decode cX0_noteGap 19 = .ok (.return_, 1) := by decide +kernel
set_option maxRecDepth 20000 in
theorem ggX0_advertise_X0_placeOf : GoodIn wsX0_advertise wsX0_placeOf := goodIn_r _ [7] (by decide +kernel) (by decide +kernel)
set_option maxRecDepth 20000 in
theorem gX0_advertise_X0_placeOf : GoodIn wsX0_advertise (va_wsS RX0 70 yX0_placeOf wsX0_placeOf) := goodIn_app (goodIn_of _ (by decide +kernel)) ggX0_advertise_X0_placeOf
set_option maxRecDepth 20000 in
theorem ggX0_advertise_X0_receiveAsMaster : GoodIn wsX0_advertise wsX0_receiveAsMaster := goodIn_r _ [11, 12, 13, 14, 6, 15, 16, 17, 18, 19, 20, 21, 22, 4, 5, 7, 23, 24, 25, 26, 27, 28, 29, 3, 30, 31, 32, 33, 34, 35, 36, 37, 38, 39, 40, 41, 42, 43, 44, 45, 46, 47, 54, 55, 56, 57, 58, 59, 60, 61, 62, 63, 64, 65, 66, 67, 68, 69, 70, 71] (by decide +kernel) (by decide +kernel)
set_option maxRecDepth 20000 in
theorem gX0_advertise_X0_receiveAsMaster : GoodIn wsX0_advertise (wsV RX0 134 RX0 yX0_receiveAsMaster wsX0_receiveAsMaster) := goodIn_app (goodIn_of _ (by decide +kernel)) ggX0_advertise_X0_receiveAsMaster
set_option maxRecDepth 20000 in
theorem ggX0_advertise_X0_receiveAsBackup : GoodIn wsX0_advertise wsX0_receiveAsBackup := goodIn_r _ [51, 31, 52, 30, 53, 4, 5, 6, 7, 12, 13, 14, 15, 16, 17, 18, 19, 20, 21, 22, 23, 24, 25, 37, 38, 39, 40, 36, 32, 33, 34, 35, 41, 42, 43, 44, 45, 46, 47, 54, 55, 56, 57, 58, 59, 60, 61, 62, 63, 64, 65, 66, 67, 68, 69, 70, 71] (by decide +kernel) (by decide +kernel)
set_option maxRecDepth 20000 in
theorem gX0_advertise_X0_receiveAsBackup : GoodIn wsX0_advertise (wsV RX0 138 RX0 yX0_receiveAsBackup wsX0_receiveAsBackup) := goodIn_app (goodIn_of _ (by decide +kernel)) ggX0_advertise_X0_receiveAsBackup
theorem dX0_advertise_0 : decode cX0_advertise 0 = .ok (.aload_n 0, 1) := by decide +kernel
theorem dX0_advertise_1 : decode cX0_advertise 1 = .ok (.getfield 35, 3) := by decide +kernel
theorem dX0_advertise_4 : decode cX0_advertise 4 = .ok (.iload_n 2, 1) := by decide +kernel
theorem dX0_advertise_5 : decode cX0_advertise 5 = .ok (.dup2, 1) := by decide +kernel
theorem dX0_advertise_6 : decode cX0_advertise 6 = .ok (.iaload, 1) := by decide +kernel
theorem dX0_advertise_7 : decode cX0_advertise 7 = .ok (.iconst 1, 1) := by decide +kernel
theorem dX0_advertise_8 : decode cX0_advertise 8 = .ok (.iadd, 1) := by decide +kernel
theorem dX0_advertise_9 : decode cX0_advertise 9 = .ok (.iastore, 1) := by decide +kernel
theorem dX0_advertise_10 : decode cX0_advertise 10 = .ok (.iconst 0, 1) := by decide +kernel
theorem dX0_advertise_11 : decode cX0_advertise 11 = .ok (.istore 4, 2) := by decide +kernel
theorem dX0_advertise_13 : decode cX0_advertise 13 = .ok (.iload 4, 2) := by decide +kernel
theorem dX0_advertise_15 : decode cX0_advertise 15 = .ok (.iconst 4, 1) := by decide +kernel
theorem dX0_advertise_16 : decode cX0_advertise 16 = .ok (.if_icmp .ge 75, 3) := by decide +kernel
theorem dX0_advertise_19 : decode cX0_advertise 19 = .ok (.iload 4, 2) := by decide +kernel
theorem dX0_advertise_21 : decode cX0_advertise 21 = .ok (.iload_n 1, 1) := by decide +kernel
theorem dX0_advertise_22 : decode cX0_advertise 22 = .ok (.if_icmp .eq 63, 3) := by decide +kernel
theorem dX0_advertise_25 : decode cX0_advertise 25 = .ok (.aload_n 0, 1) := by decide +kernel
theorem dX0_advertise_26 : decode cX0_advertise 26 = .ok (.getfield 13, 3) := by decide +kernel
theorem dX0_advertise_29 : decode cX0_advertise 29 = .ok (.iload_n 1, 1) := by decide +kernel
theorem dX0_advertise_30 : decode cX0_advertise 30 = .ok (.iconst 4, 1) := by decide +kernel
theorem dX0_advertise_31 : decode cX0_advertise 31 = .ok (.imul, 1) := by decide +kernel
theorem dX0_advertise_32 : decode cX0_advertise 32 = .ok (.iload 4, 2) := by decide +kernel
theorem dX0_advertise_34 : decode cX0_advertise 34 = .ok (.iadd, 1) := by decide +kernel
theorem dX0_advertise_35 : decode cX0_advertise 35 = .ok (.baload, 1) := by decide +kernel
theorem dX0_advertise_36 : decode cX0_advertise 36 = .ok (.ifCond .eq 49, 3) := by decide +kernel
theorem dX0_advertise_39 : decode cX0_advertise 39 = .ok (.aload_n 0, 1) := by decide +kernel
theorem dX0_advertise_40 : decode cX0_advertise 40 = .ok (.getfield 41, 3) := by decide +kernel
theorem dX0_advertise_43 : decode cX0_advertise 43 = .ok (.iload 4, 2) := by decide +kernel
theorem dX0_advertise_45 : decode cX0_advertise 45 = .ok (.iload_n 2, 1) := by decide +kernel
theorem dX0_advertise_46 : decode cX0_advertise 46 = .ok (.invokestatic 70, 3) := by decide +kernel
theorem dX0_advertise_49 : decode cX0_advertise 49 = .ok (.iaload, 1) := by decide +kernel
theorem dX0_advertise_50 : decode cX0_advertise 50 = .ok (.istore 5, 2) := by decide +kernel
theorem dX0_advertise_52 : decode cX0_advertise 52 = .ok (.iload 5, 2) := by decide +kernel
theorem dX0_advertise_54 : decode cX0_advertise 54 = .ok (.iconst 2, 1) := by decide +kernel
theorem dX0_advertise_55 : decode cX0_advertise 55 = .ok (.if_icmp .ne 15, 3) := by decide +kernel
theorem dX0_advertise_58 : decode cX0_advertise 58 = .ok (.aload_n 0, 1) := by decide +kernel
theorem dX0_advertise_59 : decode cX0_advertise 59 = .ok (.iload 4, 2) := by decide +kernel
theorem dX0_advertise_61 : decode cX0_advertise 61 = .ok (.iload_n 2, 1) := by decide +kernel
theorem dX0_advertise_62 : decode cX0_advertise 62 = .ok (.iload_n 1, 1) := by decide +kernel
theorem dX0_advertise_63 : decode cX0_advertise 63 = .ok (.iload_n 3, 1) := by decide +kernel
theorem dX0_advertise_64 : decode cX0_advertise 64 = .ok (.invokevirtual 134, 3) := by decide +kernel
theorem dX0_advertise_67 : decode cX0_advertise 67 = .ok (.goto 18, 3) := by decide +kernel
theorem dX0_advertise_70 : decode cX0_advertise 70 = .ok (.iload 5, 2) := by decide +kernel
theorem dX0_advertise_72 : decode cX0_advertise 72 = .ok (.iconst 1, 1) := by decide +kernel
theorem dX0_advertise_73 : decode cX0_advertise 73 = .ok (.if_icmp .ne 12, 3) := by decide +kernel
theorem dX0_advertise_76 : decode cX0_advertise 76 = .ok (.aload_n 0, 1) := by decide +kernel
theorem dX0_advertise_77 : decode cX0_advertise 77 = .ok (.iload 4, 2) := by decide +kernel
theorem dX0_advertise_79 : decode cX0_advertise 79 = .ok (.iload_n 2, 1) := by decide +kernel
theorem dX0_advertise_80 : decode cX0_advertise 80 = .ok (.iload_n 1, 1) := by decide +kernel
theorem dX0_advertise_81 : decode cX0_advertise 81 = .ok (.iload_n 3, 1) := by decide +kernel
theorem dX0_advertise_82 : decode cX0_advertise 82 = .ok (.invokevirtual 138, 3) := by decide +kernel
theorem dX0_advertise_85 : decode cX0_advertise 85 = .ok (.iinc 4 1, 3) := by decide +kernel
theorem dX0_advertise_88 : decode cX0_advertise 88 = .ok (.goto (-75), 3) := by decide +kernel
theorem dX0_advertise_91 : decode cX0_advertise 91 = .ok (.return_, 1) := by decide +kernel
set_option maxRecDepth 20000 in
theorem ggX0_receiveAsMaster_X0_loweredPriority : GoodIn wsX0_receiveAsMaster wsX0_loweredPriority := goodIn_r _ [5, 6, 7, 8, 9, 10, 11, 12, 13, 14, 4, 15, 16, 17, 18, 42, 43, 44, 45, 46, 47, 48, 49, 50, 51, 52, 53, 54, 55, 56, 57, 58, 59] (by decide +kernel) (by decide +kernel)
set_option maxRecDepth 20000 in
theorem gX0_receiveAsMaster_X0_loweredPriority : GoodIn wsX0_receiveAsMaster (wsV RX0 119 RX0 yX0_loweredPriority wsX0_loweredPriority) := goodIn_app (goodIn_of _ (by decide +kernel)) ggX0_receiveAsMaster_X0_loweredPriority
set_option maxRecDepth 20000 in
theorem ggX0_receiveAsMaster_X0_becomeBackup : GoodIn wsX0_receiveAsMaster wsX0_becomeBackup := goodIn_r _ [22, 23, 24, 25, 13, 14, 4, 15, 1, 2, 3, 5, 6, 7, 8, 9, 10, 11, 12, 16, 17, 18, 26, 27, 28, 29, 30, 31, 32, 33, 34, 42, 43, 44, 45, 46, 47, 48, 49, 50, 51, 52, 53, 54, 55, 56, 57, 58, 59] (by decide +kernel) (by decide +kernel)
set_option maxRecDepth 20000 in
theorem gX0_receiveAsMaster_X0_becomeBackup : GoodIn wsX0_receiveAsMaster (wsV RX0 103 RX0 yX0_becomeBackup wsX0_becomeBackup) := goodIn_app (goodIn_of _ (by decide +kernel)) ggX0_receiveAsMaster_X0_becomeBackup
set_option maxRecDepth 20000 in
theorem ggX0_receiveAsMaster_X0_copyServed : GoodIn wsX0_receiveAsMaster wsX0_copyServed := goodIn_r _ [38, 39, 40, 41, 13, 14, 4, 15, 42, 43, 44, 45, 46, 47, 48, 49, 50, 51, 52, 53, 54, 55, 56, 57, 58, 59] (by decide +kernel) (by decide +kernel)
set_option maxRecDepth 20000 in
theorem gX0_receiveAsMaster_X0_copyServed : GoodIn wsX0_receiveAsMaster (wsV RX0 141 RX0 yX0_copyServed wsX0_copyServed) := goodIn_app (goodIn_of _ (by decide +kernel)) ggX0_receiveAsMaster_X0_copyServed
theorem dX0_receiveAsMaster_0 : decode cX0_receiveAsMaster 0 = .ok (.aload_n 0, 1) := by decide +kernel
theorem dX0_receiveAsMaster_1 : decode cX0_receiveAsMaster 1 = .ok (.iload_n 1, 1) := by decide +kernel
theorem dX0_receiveAsMaster_2 : decode cX0_receiveAsMaster 2 = .ok (.iload_n 2, 1) := by decide +kernel
theorem dX0_receiveAsMaster_3 : decode cX0_receiveAsMaster 3 = .ok (.invokevirtual 119, 3) := by decide +kernel
theorem dX0_receiveAsMaster_6 : decode cX0_receiveAsMaster 6 = .ok (.istore 5, 2) := by decide +kernel
theorem dX0_receiveAsMaster_8 : decode cX0_receiveAsMaster 8 = .ok (.iload 4, 2) := by decide +kernel
theorem dX0_receiveAsMaster_10 : decode cX0_receiveAsMaster 10 = .ok (.iload 5, 2) := by decide +kernel
theorem dX0_receiveAsMaster_12 : decode cX0_receiveAsMaster 12 = .ok (.if_icmp .gt 15, 3) := by decide +kernel
theorem dX0_receiveAsMaster_15 : decode cX0_receiveAsMaster 15 = .ok (.iload 4, 2) := by decide +kernel
theorem dX0_receiveAsMaster_17 : decode cX0_receiveAsMaster 17 = .ok (.iload 5, 2) := by decide +kernel
theorem dX0_receiveAsMaster_19 : decode cX0_receiveAsMaster 19 = .ok (.if_icmp .ne 21, 3) := by decide +kernel
theorem dX0_receiveAsMaster_22 : decode cX0_receiveAsMaster 22 = .ok (.iload_n 3, 1) := by decide +kernel
theorem dX0_receiveAsMaster_23 : decode cX0_receiveAsMaster 23 = .ok (.iload_n 1, 1) := by decide +kernel
theorem dX0_receiveAsMaster_24 : decode cX0_receiveAsMaster 24 = .ok (.if_icmp .le 16, 3) := by decide +kernel
theorem dX0_receiveAsMaster_27 : decode cX0_receiveAsMaster 27 = .ok (.aload_n 0, 1) := by decide +kernel
theorem dX0_receiveAsMaster_28 : decode cX0_receiveAsMaster 28 = .ok (.iload_n 1, 1) := by decide +kernel
theorem dX0_receiveAsMaster_29 : decode cX0_receiveAsMaster 29 = .ok (.iload_n 2, 1) := by decide +kernel
theorem dX0_receiveAsMaster_30 : decode cX0_receiveAsMaster 30 = .ok (.invokevirtual 103, 3) := by decide +kernel
theorem dX0_receiveAsMaster_33 : decode cX0_receiveAsMaster 33 = .ok (.aload_n 0, 1) := by decide +kernel
theorem dX0_receiveAsMaster_34 : decode cX0_receiveAsMaster 34 = .ok (.iload_n 1, 1) := by decide +kernel
theorem dX0_receiveAsMaster_35 : decode cX0_receiveAsMaster 35 = .ok (.iload_n 2, 1) := by decide +kernel
theorem dX0_receiveAsMaster_36 : decode cX0_receiveAsMaster 36 = .ok (.iload_n 3, 1) := by decide +kernel
theorem dX0_receiveAsMaster_37 : decode cX0_receiveAsMaster 37 = .ok (.invokevirtual 141, 3) := by decide +kernel
theorem dX0_receiveAsMaster_40 : decode cX0_receiveAsMaster 40 = .ok (.return_, 1) := by decide +kernel
set_option maxRecDepth 20000 in
theorem ggX0_receiveAsBackup_X0_placeOf : GoodIn wsX0_receiveAsBackup wsX0_placeOf := goodIn_r _ [8] (by decide +kernel) (by decide +kernel)
set_option maxRecDepth 20000 in
theorem gX0_receiveAsBackup_X0_placeOf : GoodIn wsX0_receiveAsBackup (va_wsS RX0 70 yX0_placeOf wsX0_placeOf) := goodIn_app (goodIn_of _ (by decide +kernel)) ggX0_receiveAsBackup_X0_placeOf
set_option maxRecDepth 20000 in
theorem ggX0_receiveAsBackup_X0_loweredPriority : GoodIn wsX0_receiveAsBackup wsX0_loweredPriority := goodIn_r _ [12, 13, 14, 15, 16, 17, 18, 19, 5, 6, 7, 8, 20, 21, 22, 39, 40, 41, 42, 43, 44, 45, 46, 47, 48, 49, 50, 51, 52, 53, 54, 55, 56] (by decide +kernel) (by decide +kernel)
set_option maxRecDepth 20000 in
theorem gX0_receiveAsBackup_X0_loweredPriority : GoodIn wsX0_receiveAsBackup (wsV RX0 119 RX0 yX0_loweredPriority wsX0_loweredPriority) := goodIn_app (goodIn_of _ (by decide +kernel)) ggX0_receiveAsBackup_X0_loweredPriority
set_option maxRecDepth 20000 in
theorem ggX0_receiveAsBackup_X0_skewOf : GoodIn wsX0_receiveAsBackup wsX0_skewOf := goodIn_r _ [26, 27, 39, 40, 41, 42, 43, 44, 45, 46, 47, 48, 49, 50, 51, 52, 53, 54, 55, 56] (by decide +kernel) (by decide +kernel)
set_option maxRecDepth 20000 in
theorem gX0_receiveAsBackup_X0_skewOf : GoodIn wsX0_receiveAsBackup (wsV RX0 144 RX0 yX0_skewOf wsX0_skewOf) := goodIn_app (goodIn_of _ (by decide +kernel)) ggX0_receiveAsBackup_X0_skewOf
set_option maxRecDepth 20000 in
theorem ggX0_receiveAsBackup_X0_waitOf : GoodIn wsX0_receiveAsBackup wsX0_waitOf := goodIn_r _ [31, 27, 23, 24, 25, 7, 26, 39, 40, 41, 42, 43, 44, 45, 46, 47, 48, 49, 50, 51, 52, 53, 54, 55, 56] (by decide +kernel) (by decide +kernel)
set_option maxRecDepth 20000 in
theorem gX0_receiveAsBackup_X0_waitOf : GoodIn wsX0_receiveAsBackup (wsV RX0 147 RX0 yX0_waitOf wsX0_waitOf) := goodIn_app (goodIn_of _ (by decide +kernel)) ggX0_receiveAsBackup_X0_waitOf
set_option maxRecDepth 20000 in
theorem ggX0_receiveAsBackup_X0_copyServed : GoodIn wsX0_receiveAsBackup wsX0_copyServed := goodIn_r _ [35, 36, 37, 38, 5, 6, 7, 8, 39, 40, 41, 42, 43, 44, 45, 46, 47, 48, 49, 50, 51, 52, 53, 54, 55, 56] (by decide +kernel) (by decide +kernel)
set_option maxRecDepth 20000 in
theorem gX0_receiveAsBackup_X0_copyServed : GoodIn wsX0_receiveAsBackup (wsV RX0 141 RX0 yX0_copyServed wsX0_copyServed) := goodIn_app (goodIn_of _ (by decide +kernel)) ggX0_receiveAsBackup_X0_copyServed
theorem dX0_receiveAsBackup_0 : decode cX0_receiveAsBackup 0 = .ok (.iload_n 1, 1) := by decide +kernel
theorem dX0_receiveAsBackup_1 : decode cX0_receiveAsBackup 1 = .ok (.iload_n 2, 1) := by decide +kernel
theorem dX0_receiveAsBackup_2 : decode cX0_receiveAsBackup 2 = .ok (.invokestatic 70, 3) := by decide +kernel
theorem dX0_receiveAsBackup_5 : decode cX0_receiveAsBackup 5 = .ok (.istore 5, 2) := by decide +kernel
theorem dX0_receiveAsBackup_7 : decode cX0_receiveAsBackup 7 = .ok (.aload_n 0, 1) := by decide +kernel
theorem dX0_receiveAsBackup_8 : decode cX0_receiveAsBackup 8 = .ok (.iload_n 1, 1) := by decide +kernel
theorem dX0_receiveAsBackup_9 : decode cX0_receiveAsBackup 9 = .ok (.iload_n 2, 1) := by decide +kernel
theorem dX0_receiveAsBackup_10 : decode cX0_receiveAsBackup 10 = .ok (.invokevirtual 119, 3) := by decide +kernel
theorem dX0_receiveAsBackup_13 : decode cX0_receiveAsBackup 13 = .ok (.istore 6, 2) := by decide +kernel
theorem dX0_receiveAsBackup_15 : decode cX0_receiveAsBackup 15 = .ok (.iload 4, 2) := by decide +kernel
theorem dX0_receiveAsBackup_17 : decode cX0_receiveAsBackup 17 = .ok (.ifCond .ne 22, 3) := by decide +kernel
theorem dX0_receiveAsBackup_20 : decode cX0_receiveAsBackup 20 = .ok (.aload_n 0, 1) := by decide +kernel
theorem dX0_receiveAsBackup_21 : decode cX0_receiveAsBackup 21 = .ok (.getfield 44, 3) := by decide +kernel
theorem dX0_receiveAsBackup_24 : decode cX0_receiveAsBackup 24 = .ok (.iload 5, 2) := by decide +kernel
theorem dX0_receiveAsBackup_26 : decode cX0_receiveAsBackup 26 = .ok (.aload_n 0, 1) := by decide +kernel
theorem dX0_receiveAsBackup_27 : decode cX0_receiveAsBackup 27 = .ok (.iload 6, 2) := by decide +kernel
theorem dX0_receiveAsBackup_29 : decode cX0_receiveAsBackup 29 = .ok (.iload_n 2, 1) := by decide +kernel
theorem dX0_receiveAsBackup_30 : decode cX0_receiveAsBackup 30 = .ok (.invokevirtual 144, 3) := by decide +kernel
theorem dX0_receiveAsBackup_33 : decode cX0_receiveAsBackup 33 = .ok (.iconst 1, 1) := by decide +kernel
theorem dX0_receiveAsBackup_34 : decode cX0_receiveAsBackup 34 = .ok (.iadd, 1) := by decide +kernel
theorem dX0_receiveAsBackup_35 : decode cX0_receiveAsBackup 35 = .ok (.iastore, 1) := by decide +kernel
theorem dX0_receiveAsBackup_36 : decode cX0_receiveAsBackup 36 = .ok (.goto 86, 3) := by decide +kernel
theorem dX0_receiveAsBackup_39 : decode cX0_receiveAsBackup 39 = .ok (.aload_n 0, 1) := by decide +kernel
theorem dX0_receiveAsBackup_40 : decode cX0_receiveAsBackup 40 = .ok (.getfield 26, 3) := by decide +kernel
theorem dX0_receiveAsBackup_43 : decode cX0_receiveAsBackup 43 = .ok (.iload_n 2, 1) := by decide +kernel
theorem dX0_receiveAsBackup_44 : decode cX0_receiveAsBackup 44 = .ok (.baload, 1) := by decide +kernel
theorem dX0_receiveAsBackup_45 : decode cX0_receiveAsBackup 45 = .ok (.ifCond .eq 55, 3) := by decide +kernel
theorem dX0_receiveAsBackup_48 : decode cX0_receiveAsBackup 48 = .ok (.iload 6, 2) := by decide +kernel
theorem dX0_receiveAsBackup_50 : decode cX0_receiveAsBackup 50 = .ok (.iload 4, 2) := by decide +kernel
theorem dX0_receiveAsBackup_52 : decode cX0_receiveAsBackup 52 = .ok (.if_icmp .le 48, 3) := by decide +kernel
theorem dX0_receiveAsBackup_55 : decode cX0_receiveAsBackup 55 = .ok (.aload_n 0, 1) := by decide +kernel
theorem dX0_receiveAsBackup_56 : decode cX0_receiveAsBackup 56 = .ok (.getfield 47, 3) := by decide +kernel
theorem dX0_receiveAsBackup_59 : decode cX0_receiveAsBackup 59 = .ok (.iload 5, 2) := by decide +kernel
theorem dX0_receiveAsBackup_61 : decode cX0_receiveAsBackup 61 = .ok (.iaload, 1) := by decide +kernel
theorem dX0_receiveAsBackup_62 : decode cX0_receiveAsBackup 62 = .ok (.aload_n 0, 1) := by decide +kernel
theorem dX0_receiveAsBackup_63 : decode cX0_receiveAsBackup 63 = .ok (.getfield 29, 3) := by decide +kernel
theorem dX0_receiveAsBackup_66 : decode cX0_receiveAsBackup 66 = .ok (.iload_n 2, 1) := by decide +kernel
theorem dX0_receiveAsBackup_67 : decode cX0_receiveAsBackup 67 = .ok (.iaload, 1) := by decide +kernel
theorem dX0_receiveAsBackup_68 : decode cX0_receiveAsBackup 68 = .ok (.if_icmp .lt 4, 3) := by decide +kernel
theorem dX0_receiveAsBackup_71 : decode cX0_receiveAsBackup 71 = .ok (.return_, 1) := by decide +kernel
theorem dX0_receiveAsBackup_72 : decode cX0_receiveAsBackup 72 = .ok (.aload_n 0, 1) := by decide +kernel
theorem dX0_receiveAsBackup_73 : decode cX0_receiveAsBackup 73 = .ok (.getfield 47, 3) := by decide +kernel
theorem dX0_receiveAsBackup_76 : decode cX0_receiveAsBackup 76 = .ok (.iload 5, 2) := by decide +kernel
theorem dX0_receiveAsBackup_78 : decode cX0_receiveAsBackup 78 = .ok (.dup2, 1) := by decide +kernel
theorem dX0_receiveAsBackup_79 : decode cX0_receiveAsBackup 79 = .ok (.iaload, 1) := by decide +kernel
theorem dX0_receiveAsBackup_80 : decode cX0_receiveAsBackup 80 = .ok (.iconst 1, 1) := by decide +kernel
theorem dX0_receiveAsBackup_81 : decode cX0_receiveAsBackup 81 = .ok (.iadd, 1) := by decide +kernel
theorem dX0_receiveAsBackup_82 : decode cX0_receiveAsBackup 82 = .ok (.iastore, 1) := by decide +kernel
theorem dX0_receiveAsBackup_83 : decode cX0_receiveAsBackup 83 = .ok (.aload_n 0, 1) := by decide +kernel
theorem dX0_receiveAsBackup_84 : decode cX0_receiveAsBackup 84 = .ok (.getfield 44, 3) := by decide +kernel
theorem dX0_receiveAsBackup_87 : decode cX0_receiveAsBackup 87 = .ok (.iload 5, 2) := by decide +kernel
theorem dX0_receiveAsBackup_89 : decode cX0_receiveAsBackup 89 = .ok (.aload_n 0, 1) := by decide +kernel
theorem dX0_receiveAsBackup_90 : decode cX0_receiveAsBackup 90 = .ok (.iload 6, 2) := by decide +kernel
theorem dX0_receiveAsBackup_92 : decode cX0_receiveAsBackup 92 = .ok (.iload_n 2, 1) := by decide +kernel
theorem dX0_receiveAsBackup_93 : decode cX0_receiveAsBackup 93 = .ok (.invokevirtual 147, 3) := by decide +kernel
theorem dX0_receiveAsBackup_96 : decode cX0_receiveAsBackup 96 = .ok (.iastore, 1) := by decide +kernel
theorem dX0_receiveAsBackup_97 : decode cX0_receiveAsBackup 97 = .ok (.goto 25, 3) := by decide +kernel
theorem dX0_receiveAsBackup_100 : decode cX0_receiveAsBackup 100 = .ok (.aload_n 0, 1) := by decide +kernel
theorem dX0_receiveAsBackup_101 : decode cX0_receiveAsBackup 101 = .ok (.getfield 47, 3) := by decide +kernel
theorem dX0_receiveAsBackup_104 : decode cX0_receiveAsBackup 104 = .ok (.iload 5, 2) := by decide +kernel
theorem dX0_receiveAsBackup_106 : decode cX0_receiveAsBackup 106 = .ok (.iconst 0, 1) := by decide +kernel
theorem dX0_receiveAsBackup_107 : decode cX0_receiveAsBackup 107 = .ok (.iastore, 1) := by decide +kernel
theorem dX0_receiveAsBackup_108 : decode cX0_receiveAsBackup 108 = .ok (.aload_n 0, 1) := by decide +kernel
theorem dX0_receiveAsBackup_109 : decode cX0_receiveAsBackup 109 = .ok (.getfield 44, 3) := by decide +kernel
theorem dX0_receiveAsBackup_112 : decode cX0_receiveAsBackup 112 = .ok (.iload 5, 2) := by decide +kernel
theorem dX0_receiveAsBackup_114 : decode cX0_receiveAsBackup 114 = .ok (.aload_n 0, 1) := by decide +kernel
theorem dX0_receiveAsBackup_115 : decode cX0_receiveAsBackup 115 = .ok (.iload 6, 2) := by decide +kernel
theorem dX0_receiveAsBackup_117 : decode cX0_receiveAsBackup 117 = .ok (.iload_n 2, 1) := by decide +kernel
theorem dX0_receiveAsBackup_118 : decode cX0_receiveAsBackup 118 = .ok (.invokevirtual 147, 3) := by decide +kernel
theorem dX0_receiveAsBackup_121 : decode cX0_receiveAsBackup 121 = .ok (.iastore, 1) := by decide +kernel
theorem dX0_receiveAsBackup_122 : decode cX0_receiveAsBackup 122 = .ok (.aload_n 0, 1) := by decide +kernel
theorem dX0_receiveAsBackup_123 : decode cX0_receiveAsBackup 123 = .ok (.iload_n 1, 1) := by decide +kernel
theorem dX0_receiveAsBackup_124 : decode cX0_receiveAsBackup 124 = .ok (.iload_n 2, 1) := by decide +kernel
theorem dX0_receiveAsBackup_125 : decode cX0_receiveAsBackup 125 = .ok (.iload_n 3, 1) := by decide +kernel
theorem dX0_receiveAsBackup_126 : decode cX0_receiveAsBackup 126 = .ok (.invokevirtual 141, 3) := by decide +kernel
theorem dX0_receiveAsBackup_129 : decode cX0_receiveAsBackup 129 = .ok (.return_, 1) := by decide +kernel
set_option maxRecDepth 20000 in
theorem ggX0_copyServed_X0_placeOf : GoodIn wsX0_copyServed wsX0_placeOf := goodIn_r _ [7] (by decide +kernel) (by decide +kernel)
set_option maxRecDepth 20000 in
theorem gX0_copyServed_X0_placeOf : GoodIn wsX0_copyServed (va_wsS RX0 70 yX0_placeOf wsX0_placeOf) := goodIn_app (goodIn_of _ (by decide +kernel)) ggX0_copyServed_X0_placeOf
theorem dX0_copyServed_0 : decode cX0_copyServed 0 = .ok (.iload_n 1, 1) := by decide +kernel
theorem dX0_copyServed_1 : decode cX0_copyServed 1 = .ok (.iload_n 2, 1) := by decide +kernel
theorem dX0_copyServed_2 : decode cX0_copyServed 2 = .ok (.invokestatic 70, 3) := by decide +kernel
theorem dX0_copyServed_5 : decode cX0_copyServed 5 = .ok (.istore 4, 2) := by decide +kernel
theorem dX0_copyServed_7 : decode cX0_copyServed 7 = .ok (.aload_n 0, 1) := by decide +kernel
theorem dX0_copyServed_8 : decode cX0_copyServed 8 = .ok (.getfield 50, 3) := by decide +kernel
theorem dX0_copyServed_11 : decode cX0_copyServed 11 = .ok (.iload_n 3, 1) := by decide +kernel
theorem dX0_copyServed_12 : decode cX0_copyServed 12 = .ok (.iload_n 2, 1) := by decide +kernel
theorem dX0_copyServed_13 : decode cX0_copyServed 13 = .ok (.invokestatic 70, 3) := by decide +kernel
theorem dX0_copyServed_16 : decode cX0_copyServed 16 = .ok (.iaload, 1) := by decide +kernel
theorem dX0_copyServed_17 : decode cX0_copyServed 17 = .ok (.aload_n 0, 1) := by decide +kernel
theorem dX0_copyServed_18 : decode cX0_copyServed 18 = .ok (.getfield 50, 3) := by decide +kernel
theorem dX0_copyServed_21 : decode cX0_copyServed 21 = .ok (.iload 4, 2) := by decide +kernel
theorem dX0_copyServed_23 : decode cX0_copyServed 23 = .ok (.iaload, 1) := by decide +kernel
theorem dX0_copyServed_24 : decode cX0_copyServed 24 = .ok (.isub, 1) := by decide +kernel
theorem dX0_copyServed_25 : decode cX0_copyServed 25 = .ok (.istore 5, 2) := by decide +kernel
theorem dX0_copyServed_27 : decode cX0_copyServed 27 = .ok (.iload 5, 2) := by decide +kernel
theorem dX0_copyServed_29 : decode cX0_copyServed 29 = .ok (.ifCond .gt 4, 3) := by decide +kernel
theorem dX0_copyServed_32 : decode cX0_copyServed 32 = .ok (.return_, 1) := by decide +kernel
theorem dX0_copyServed_33 : decode cX0_copyServed 33 = .ok (.iload 5, 2) := by decide +kernel
theorem dX0_copyServed_35 : decode cX0_copyServed 35 = .ok (.bipush 10, 2) := by decide +kernel
theorem dX0_copyServed_37 : decode cX0_copyServed 37 = .ok (.if_icmp .le 22, 3) := by decide +kernel
theorem dX0_copyServed_40 : decode cX0_copyServed 40 = .ok (.aload_n 0, 1) := by decide +kernel
theorem dX0_copyServed_41 : decode cX0_copyServed 41 = .ok (.getfield 56, 3) := by decide +kernel
theorem dX0_copyServed_44 : decode cX0_copyServed 44 = .ok (.iload 4, 2) := by decide +kernel
theorem dX0_copyServed_46 : decode cX0_copyServed 46 = .ok (.baload, 1) := by decide +kernel
theorem dX0_copyServed_47 : decode cX0_copyServed 47 = .ok (.ifCond .ne 12, 3) := by decide +kernel
theorem dX0_copyServed_50 : decode cX0_copyServed 50 = .ok (.aload_n 0, 1) := by decide +kernel
theorem dX0_copyServed_51 : decode cX0_copyServed 51 = .ok (.getfield 56, 3) := by decide +kernel
theorem dX0_copyServed_54 : decode cX0_copyServed 54 = .ok (.iload 4, 2) := by decide +kernel
theorem dX0_copyServed_56 : decode cX0_copyServed 56 = .ok (.iconst 1, 1) := by decide +kernel
theorem dX0_copyServed_57 : decode cX0_copyServed 57 = .ok (.bastore, 1) := by decide +kernel
theorem dX0_copyServed_58 : decode cX0_copyServed 58 = .ok (.return_, 1) := by decide +kernel
theorem dX0_copyServed_59 : decode cX0_copyServed 59 = .ok (.aload_n 0, 1) := by decide +kernel
theorem dX0_copyServed_60 : decode cX0_copyServed 60 = .ok (.getfield 50, 3) := by decide +kernel
theorem dX0_copyServed_63 : decode cX0_copyServed 63 = .ok (.iload 4, 2) := by decide +kernel
theorem dX0_copyServed_65 : decode cX0_copyServed 65 = .ok (.dup2, 1) := by decide +kernel
theorem dX0_copyServed_66 : decode cX0_copyServed 66 = .ok (.iaload, 1) := by decide +kernel
theorem dX0_copyServed_67 : decode cX0_copyServed 67 = .ok (.iload 5, 2) := by decide +kernel
theorem dX0_copyServed_69 : decode cX0_copyServed 69 = .ok (.iadd, 1) := by decide +kernel
theorem dX0_copyServed_70 : decode cX0_copyServed 70 = .ok (.iastore, 1) := by decide +kernel
theorem dX0_copyServed_71 : decode cX0_copyServed 71 = .ok (.aload_n 0, 1) := by decide +kernel
theorem dX0_copyServed_72 : decode cX0_copyServed 72 = .ok (.getfield 56, 3) := by decide +kernel
theorem dX0_copyServed_75 : decode cX0_copyServed 75 = .ok (.iload 4, 2) := by decide +kernel
theorem dX0_copyServed_77 : decode cX0_copyServed 77 = .ok (.baload, 1) := by decide +kernel
theorem dX0_copyServed_78 : decode cX0_copyServed 78 = .ok (.ifCond .eq 21, 3) := by decide +kernel
theorem dX0_copyServed_81 : decode cX0_copyServed 81 = .ok (.aload_n 0, 1) := by decide +kernel
theorem dX0_copyServed_82 : decode cX0_copyServed 82 = .ok (.getfield 56, 3) := by decide +kernel
theorem dX0_copyServed_85 : decode cX0_copyServed 85 = .ok (.iload 4, 2) := by decide +kernel
theorem dX0_copyServed_87 : decode cX0_copyServed 87 = .ok (.iconst 0, 1) := by decide +kernel
theorem dX0_copyServed_88 : decode cX0_copyServed 88 = .ok (.bastore, 1) := by decide +kernel
theorem dX0_copyServed_89 : decode cX0_copyServed 89 = .ok (.aload_n 0, 1) := by decide +kernel
theorem dX0_copyServed_90 : decode cX0_copyServed 90 = .ok (.dup, 1) := by decide +kernel
theorem dX0_copyServed_91 : decode cX0_copyServed 91 = .ok (.getfield 127, 3) := by decide +kernel
theorem dX0_copyServed_94 : decode cX0_copyServed 94 = .ok (.iconst 1, 1) := by decide +kernel
theorem dX0_copyServed_95 : decode cX0_copyServed 95 = .ok (.iadd, 1) := by decide +kernel
theorem dX0_copyServed_96 : decode cX0_copyServed 96 = .ok (.putfield 127, 3) := by decide +kernel
theorem dX0_copyServed_99 : decode cX0_copyServed 99 = .ok (.return_, 1) := by decide +kernel
set_option maxRecDepth 20000 in
theorem ggX0_beginPart_X0_becomeBackup : GoodIn wsX0_beginPart wsX0_becomeBackup := goodIn_r _ [6, 7, 8, 9, 10, 11, 5, 12, 13, 14, 15, 16, 17, 18, 19, 20, 21, 22, 23, 24, 25, 26, 27, 28, 29, 30, 31, 32, 33, 34, 35, 36, 37, 38, 39, 40, 41, 42, 43, 44, 45, 46, 47, 48, 49, 50, 51, 52, 53] (by decide +kernel) (by decide +kernel)
set_option maxRecDepth 20000 in
theorem gX0_beginPart_X0_becomeBackup : GoodIn wsX0_beginPart (wsV RX0 103 RX0 yX0_becomeBackup wsX0_becomeBackup) := goodIn_app (goodIn_of _ (by decide +kernel)) ggX0_beginPart_X0_becomeBackup
set_option maxRecDepth 20000 in
theorem ggX0_beginPart_X0_placeOf : GoodIn wsX0_beginPart wsX0_placeOf := goodIn_r _ [12] (by decide +kernel) (by decide +kernel)
set_option maxRecDepth 20000 in
theorem gX0_beginPart_X0_placeOf : GoodIn wsX0_beginPart (va_wsS RX0 70 yX0_placeOf wsX0_placeOf) := goodIn_app (goodIn_of _ (by decide +kernel)) ggX0_beginPart_X0_placeOf
theorem dX0_beginPart_0 : decode cX0_beginPart 0 = .ok (.aload_n 0, 1) := by decide +kernel
theorem dX0_beginPart_1 : decode cX0_beginPart 1 = .ok (.iload_n 1, 1) := by decide +kernel
theorem dX0_beginPart_2 : decode cX0_beginPart 2 = .ok (.iload_n 2, 1) := by decide +kernel
theorem dX0_beginPart_3 : decode cX0_beginPart 3 = .ok (.invokevirtual 103, 3) := by decide +kernel
theorem dX0_beginPart_6 : decode cX0_beginPart 6 = .ok (.aload_n 0, 1) := by decide +kernel
theorem dX0_beginPart_7 : decode cX0_beginPart 7 = .ok (.getfield 56, 3) := by decide +kernel
theorem dX0_beginPart_10 : decode cX0_beginPart 10 = .ok (.iload_n 1, 1) := by decide +kernel
theorem dX0_beginPart_11 : decode cX0_beginPart 11 = .ok (.iload_n 2, 1) := by decide +kernel
theorem dX0_beginPart_12 : decode cX0_beginPart 12 = .ok (.invokestatic 70, 3) := by decide +kernel
theorem dX0_beginPart_15 : decode cX0_beginPart 15 = .ok (.iconst 0, 1) := by decide +kernel
theorem dX0_beginPart_16 : decode cX0_beginPart 16 = .ok (.bastore, 1) := by decide +kernel
theorem dX0_beginPart_17 : decode cX0_beginPart 17 = .ok (.return_, 1) := by decide +kernel
set_option maxRecDepth 20000 in
theorem ggX0_becomeBackup_X0_placeOf : GoodIn wsX0_becomeBackup wsX0_placeOf := goodIn_r _ [7] (by decide +kernel) (by decide +kernel)
set_option maxRecDepth 20000 in
theorem gX0_becomeBackup_X0_placeOf : GoodIn wsX0_becomeBackup (va_wsS RX0 70 yX0_placeOf wsX0_placeOf) := goodIn_app (goodIn_of _ (by decide +kernel)) ggX0_becomeBackup_X0_placeOf
set_option maxRecDepth 20000 in
theorem ggX0_becomeBackup_X0_loweredPriority : GoodIn wsX0_becomeBackup wsX0_loweredPriority := goodIn_r _ [11, 12, 13, 14, 15, 16, 17, 18, 4, 5, 6, 7, 19, 20, 21, 31, 32, 33, 34, 35, 36, 37, 38, 39, 40, 41, 42, 43, 44, 45, 46, 47, 48] (by decide +kernel) (by decide +kernel)
set_option maxRecDepth 20000 in
theorem gX0_becomeBackup_X0_loweredPriority : GoodIn wsX0_becomeBackup (wsV RX0 119 RX0 yX0_loweredPriority wsX0_loweredPriority) := goodIn_app (goodIn_of _ (by decide +kernel)) ggX0_becomeBackup_X0_loweredPriority
set_option maxRecDepth 20000 in
theorem ggX0_becomeBackup_X0_waitOf : GoodIn wsX0_becomeBackup wsX0_waitOf := goodIn_r _ [25, 26, 27, 28, 29, 6, 30, 31, 32, 33, 34, 35, 36, 37, 38, 39, 40, 41, 42, 43, 44, 45, 46, 47, 48] (by decide +kernel) (by decide +kernel)
set_option maxRecDepth 20000 in
theorem gX0_becomeBackup_X0_waitOf : GoodIn wsX0_becomeBackup (wsV RX0 147 RX0 yX0_waitOf wsX0_waitOf) := goodIn_app (goodIn_of _ (by decide +kernel)) ggX0_becomeBackup_X0_waitOf
theorem dX0_becomeBackup_0 : decode cX0_becomeBackup 0 = .ok (.iload_n 1, 1) := by decide +kernel
theorem dX0_becomeBackup_1 : decode cX0_becomeBackup 1 = .ok (.iload_n 2, 1) := by decide +kernel
theorem dX0_becomeBackup_2 : decode cX0_becomeBackup 2 = .ok (.invokestatic 70, 3) := by decide +kernel
theorem dX0_becomeBackup_5 : decode cX0_becomeBackup 5 = .ok (.istore_n 3, 1) := by decide +kernel
theorem dX0_becomeBackup_6 : decode cX0_becomeBackup 6 = .ok (.aload_n 0, 1) := by decide +kernel
theorem dX0_becomeBackup_7 : decode cX0_becomeBackup 7 = .ok (.getfield 41, 3) := by decide +kernel
theorem dX0_becomeBackup_10 : decode cX0_becomeBackup 10 = .ok (.iload_n 3, 1) := by decide +kernel
theorem dX0_becomeBackup_11 : decode cX0_becomeBackup 11 = .ok (.iconst 1, 1) := by decide +kernel
theorem dX0_becomeBackup_12 : decode cX0_becomeBackup 12 = .ok (.iastore, 1) := by decide +kernel
theorem dX0_becomeBackup_13 : decode cX0_becomeBackup 13 = .ok (.aload_n 0, 1) := by decide +kernel
theorem dX0_becomeBackup_14 : decode cX0_becomeBackup 14 = .ok (.getfield 47, 3) := by decide +kernel
theorem dX0_becomeBackup_17 : decode cX0_becomeBackup 17 = .ok (.iload_n 3, 1) := by decide +kernel
theorem dX0_becomeBackup_18 : decode cX0_becomeBackup 18 = .ok (.iconst 0, 1) := by decide +kernel
theorem dX0_becomeBackup_19 : decode cX0_becomeBackup 19 = .ok (.iastore, 1) := by decide +kernel
theorem dX0_becomeBackup_20 : decode cX0_becomeBackup 20 = .ok (.aload_n 0, 1) := by decide +kernel
theorem dX0_becomeBackup_21 : decode cX0_becomeBackup 21 = .ok (.getfield 44, 3) := by decide +kernel
theorem dX0_becomeBackup_24 : decode cX0_becomeBackup 24 = .ok (.iload_n 3, 1) := by decide +kernel
theorem dX0_becomeBackup_25 : decode cX0_becomeBackup 25 = .ok (.aload_n 0, 1) := by decide +kernel
theorem dX0_becomeBackup_26 : decode cX0_becomeBackup 26 = .ok (.aload_n 0, 1) := by decide +kernel
theorem dX0_becomeBackup_27 : decode cX0_becomeBackup 27 = .ok (.iload_n 1, 1) := by decide +kernel
theorem dX0_becomeBackup_28 : decode cX0_becomeBackup 28 = .ok (.iload_n 2, 1) := by decide +kernel
theorem dX0_becomeBackup_29 : decode cX0_becomeBackup 29 = .ok (.invokevirtual 119, 3) := by decide +kernel
theorem dX0_becomeBackup_32 : decode cX0_becomeBackup 32 = .ok (.iload_n 2, 1) := by decide +kernel
theorem dX0_becomeBackup_33 : decode cX0_becomeBackup 33 = .ok (.invokevirtual 147, 3) := by decide +kernel
theorem dX0_becomeBackup_36 : decode cX0_becomeBackup 36 = .ok (.iastore, 1) := by decide +kernel
theorem dX0_becomeBackup_37 : decode cX0_becomeBackup 37 = .ok (.return_, 1) := by decide +kernel
set_option maxRecDepth 20000 in
theorem ggX0_membersWith_X0_placeOf : GoodIn wsX0_membersWith wsX0_placeOf := goodIn_r _ [5] (by decide +kernel) (by decide +kernel)
set_option maxRecDepth 20000 in
theorem gX0_membersWith_X0_placeOf : GoodIn wsX0_membersWith (va_wsS RX0 70 yX0_placeOf wsX0_placeOf) := goodIn_app (goodIn_of _ (by decide +kernel)) ggX0_membersWith_X0_placeOf
theorem dX0_membersWith_0 : decode cX0_membersWith 0 = .ok (.iconst 0, 1) := by decide +kernel
theorem dX0_membersWith_1 : decode cX0_membersWith 1 = .ok (.istore_n 3, 1) := by decide +kernel
theorem dX0_membersWith_2 : decode cX0_membersWith 2 = .ok (.iconst 0, 1) := by decide +kernel
theorem dX0_membersWith_3 : decode cX0_membersWith 3 = .ok (.istore 4, 2) := by decide +kernel
theorem dX0_membersWith_5 : decode cX0_membersWith 5 = .ok (.iload 4, 2) := by decide +kernel
theorem dX0_membersWith_7 : decode cX0_membersWith 7 = .ok (.iconst 4, 1) := by decide +kernel
theorem dX0_membersWith_8 : decode cX0_membersWith 8 = .ok (.if_icmp .ge 31, 3) := by decide +kernel
theorem dX0_membersWith_11 : decode cX0_membersWith 11 = .ok (.aload_n 0, 1) := by decide +kernel
theorem dX0_membersWith_12 : decode cX0_membersWith 12 = .ok (.getfield 41, 3) := by decide +kernel
theorem dX0_membersWith_15 : decode cX0_membersWith 15 = .ok (.iload 4, 2) := by decide +kernel
theorem dX0_membersWith_17 : decode cX0_membersWith 17 = .ok (.iload_n 2, 1) := by decide +kernel
theorem dX0_membersWith_18 : decode cX0_membersWith 18 = .ok (.invokestatic 70, 3) := by decide +kernel
theorem dX0_membersWith_21 : decode cX0_membersWith 21 = .ok (.iaload, 1) := by decide +kernel
theorem dX0_membersWith_22 : decode cX0_membersWith 22 = .ok (.iload_n 1, 1) := by decide +kernel
theorem dX0_membersWith_23 : decode cX0_membersWith 23 = .ok (.if_icmp .ne 10, 3) := by decide +kernel
theorem dX0_membersWith_26 : decode cX0_membersWith 26 = .ok (.iload_n 3, 1) := by decide +kernel
theorem dX0_membersWith_27 : decode cX0_membersWith 27 = .ok (.iconst 1, 1) := by decide +kernel
theorem dX0_membersWith_28 : decode cX0_membersWith 28 = .ok (.iload 4, 2) := by decide +kernel
theorem dX0_membersWith_30 : decode cX0_membersWith 30 = .ok (.ishl, 1) := by decide +kernel
theorem dX0_membersWith_31 : decode cX0_membersWith 31 = .ok (.iadd, 1) := by decide +kernel
theorem dX0_membersWith_32 : decode cX0_membersWith 32 = .ok (.istore_n 3, 1) := by decide +kernel
theorem dX0_membersWith_33 : decode cX0_membersWith 33 = .ok (.iinc 4 1, 3) := by decide +kernel
theorem dX0_membersWith_36 : decode cX0_membersWith 36 = .ok (.goto (-31), 3) := by decide +kernel
theorem dX0_membersWith_39 : decode cX0_membersWith 39 = .ok (.iload_n 3, 1) := by decide +kernel
theorem dX0_membersWith_40 : decode cX0_membersWith 40 = .ok (.ireturn, 1) := by decide +kernel
set_option maxRecDepth 20000 in
theorem ggX0_hasJoinedMasters_X0_placeOf : GoodIn wsX0_hasJoinedMasters wsX0_placeOf := goodIn_r _ [6] (by decide +kernel) (by decide +kernel)
set_option maxRecDepth 20000 in
theorem gX0_hasJoinedMasters_X0_placeOf : GoodIn wsX0_hasJoinedMasters (va_wsS RX0 70 yX0_placeOf wsX0_placeOf) := goodIn_app (goodIn_of _ (by decide +kernel)) ggX0_hasJoinedMasters_X0_placeOf
theorem dX0_hasJoinedMasters_0 : decode cX0_hasJoinedMasters 0 = .ok (.iconst 0, 1) := by decide +kernel
theorem dX0_hasJoinedMasters_1 : decode cX0_hasJoinedMasters 1 = .ok (.istore_n 2, 1) := by decide +kernel
theorem dX0_hasJoinedMasters_2 : decode cX0_hasJoinedMasters 2 = .ok (.iload_n 2, 1) := by decide +kernel
theorem dX0_hasJoinedMasters_3 : decode cX0_hasJoinedMasters 3 = .ok (.iconst 4, 1) := by decide +kernel
theorem dX0_hasJoinedMasters_4 : decode cX0_hasJoinedMasters 4 = .ok (.if_icmp .ge 67, 3) := by decide +kernel
theorem dX0_hasJoinedMasters_7 : decode cX0_hasJoinedMasters 7 = .ok (.iload_n 2, 1) := by decide +kernel
theorem dX0_hasJoinedMasters_8 : decode cX0_hasJoinedMasters 8 = .ok (.iconst 1, 1) := by decide +kernel
theorem dX0_hasJoinedMasters_9 : decode cX0_hasJoinedMasters 9 = .ok (.iadd, 1) := by decide +kernel
theorem dX0_hasJoinedMasters_10 : decode cX0_hasJoinedMasters 10 = .ok (.istore_n 3, 1) := by decide +kernel
theorem dX0_hasJoinedMasters_11 : decode cX0_hasJoinedMasters 11 = .ok (.iload_n 3, 1) := by decide +kernel
theorem dX0_hasJoinedMasters_12 : decode cX0_hasJoinedMasters 12 = .ok (.iconst 4, 1) := by decide +kernel
theorem dX0_hasJoinedMasters_13 : decode cX0_hasJoinedMasters 13 = .ok (.if_icmp .ge 52, 3) := by decide +kernel
theorem dX0_hasJoinedMasters_16 : decode cX0_hasJoinedMasters 16 = .ok (.aload_n 0, 1) := by decide +kernel
theorem dX0_hasJoinedMasters_17 : decode cX0_hasJoinedMasters 17 = .ok (.getfield 41, 3) := by decide +kernel
theorem dX0_hasJoinedMasters_20 : decode cX0_hasJoinedMasters 20 = .ok (.iload_n 2, 1) := by decide +kernel
theorem dX0_hasJoinedMasters_21 : decode cX0_hasJoinedMasters 21 = .ok (.iload_n 1, 1) := by decide +kernel
theorem dX0_hasJoinedMasters_22 : decode cX0_hasJoinedMasters 22 = .ok (.invokestatic 70, 3) := by decide +kernel
theorem dX0_hasJoinedMasters_25 : decode cX0_hasJoinedMasters 25 = .ok (.iaload, 1) := by decide +kernel
theorem dX0_hasJoinedMasters_26 : decode cX0_hasJoinedMasters 26 = .ok (.iconst 2, 1) := by decide +kernel
theorem dX0_hasJoinedMasters_27 : decode cX0_hasJoinedMasters 27 = .ok (.if_icmp .ne 32, 3) := by decide +kernel
theorem dX0_hasJoinedMasters_30 : decode cX0_hasJoinedMasters 30 = .ok (.aload_n 0, 1) := by decide +kernel
theorem dX0_hasJoinedMasters_31 : decode cX0_hasJoinedMasters 31 = .ok (.getfield 41, 3) := by decide +kernel
theorem dX0_hasJoinedMasters_34 : decode cX0_hasJoinedMasters 34 = .ok (.iload_n 3, 1) := by decide +kernel
theorem dX0_hasJoinedMasters_35 : decode cX0_hasJoinedMasters 35 = .ok (.iload_n 1, 1) := by decide +kernel
theorem dX0_hasJoinedMasters_36 : decode cX0_hasJoinedMasters 36 = .ok (.invokestatic 70, 3) := by decide +kernel
theorem dX0_hasJoinedMasters_39 : decode cX0_hasJoinedMasters 39 = .ok (.iaload, 1) := by decide +kernel
theorem dX0_hasJoinedMasters_40 : decode cX0_hasJoinedMasters 40 = .ok (.iconst 2, 1) := by decide +kernel
theorem dX0_hasJoinedMasters_41 : decode cX0_hasJoinedMasters 41 = .ok (.if_icmp .ne 18, 3) := by decide +kernel
theorem dX0_hasJoinedMasters_44 : decode cX0_hasJoinedMasters 44 = .ok (.aload_n 0, 1) := by decide +kernel
theorem dX0_hasJoinedMasters_45 : decode cX0_hasJoinedMasters 45 = .ok (.getfield 13, 3) := by decide +kernel
theorem dX0_hasJoinedMasters_48 : decode cX0_hasJoinedMasters 48 = .ok (.iload_n 2, 1) := by decide +kernel
theorem dX0_hasJoinedMasters_49 : decode cX0_hasJoinedMasters 49 = .ok (.iconst 4, 1) := by decide +kernel
theorem dX0_hasJoinedMasters_50 : decode cX0_hasJoinedMasters 50 = .ok (.imul, 1) := by decide +kernel
theorem dX0_hasJoinedMasters_51 : decode cX0_hasJoinedMasters 51 = .ok (.iload_n 3, 1) := by decide +kernel
theorem dX0_hasJoinedMasters_52 : decode cX0_hasJoinedMasters 52 = .ok (.iadd, 1) := by decide +kernel
theorem dX0_hasJoinedMasters_53 : decode cX0_hasJoinedMasters 53 = .ok (.baload, 1) := by decide +kernel
theorem dX0_hasJoinedMasters_54 : decode cX0_hasJoinedMasters 54 = .ok (.ifCond .eq 5, 3) := by decide +kernel
theorem dX0_hasJoinedMasters_57 : decode cX0_hasJoinedMasters 57 = .ok (.iconst 1, 1) := by decide +kernel
theorem dX0_hasJoinedMasters_58 : decode cX0_hasJoinedMasters 58 = .ok (.ireturn, 1) := by decide +kernel
theorem dX0_hasJoinedMasters_59 : decode cX0_hasJoinedMasters 59 = .ok (.iinc 3 1, 3) := by decide +kernel
theorem dX0_hasJoinedMasters_62 : decode cX0_hasJoinedMasters 62 = .ok (.goto (-51), 3) := by decide +kernel
theorem dX0_hasJoinedMasters_65 : decode cX0_hasJoinedMasters 65 = .ok (.iinc 2 1, 3) := by decide +kernel
theorem dX0_hasJoinedMasters_68 : decode cX0_hasJoinedMasters 68 = .ok (.goto (-66), 3) := by decide +kernel
theorem dX0_hasJoinedMasters_71 : decode cX0_hasJoinedMasters 71 = .ok (.iconst 0, 1) := by decide +kernel
theorem dX0_hasJoinedMasters_72 : decode cX0_hasJoinedMasters 72 = .ok (.ireturn, 1) := by decide +kernel
set_option maxRecDepth 20000 in
theorem ggX0_loweredPriority_X0_placeOf : GoodIn wsX0_loweredPriority wsX0_placeOf := goodIn_r _ [11] (by decide +kernel) (by decide +kernel)
set_option maxRecDepth 20000 in
theorem gX0_loweredPriority_X0_placeOf : GoodIn wsX0_loweredPriority (va_wsS RX0 70 yX0_placeOf wsX0_placeOf) := goodIn_app (goodIn_of _ (by decide +kernel)) ggX0_loweredPriority_X0_placeOf
set_option maxRecDepth 20000 in
theorem ggX0_loweredPriority_X0_linkOf : GoodIn wsX0_loweredPriority wsX0_linkOf := goodIn_r _ [14] (by decide +kernel) (by decide +kernel)
set_option maxRecDepth 20000 in
theorem gX0_loweredPriority_X0_linkOf : GoodIn wsX0_loweredPriority (va_wsS RX0 84 yX0_linkOf wsX0_linkOf) := goodIn_app (goodIn_of _ (by decide +kernel)) ggX0_loweredPriority_X0_linkOf
theorem dX0_loweredPriority_0 : decode cX0_loweredPriority 0 = .ok (.aload_n 0, 1) := by decide +kernel
theorem dX0_loweredPriority_1 : decode cX0_loweredPriority 1 = .ok (.getfield 38, 3) := by decide +kernel
theorem dX0_loweredPriority_4 : decode cX0_loweredPriority 4 = .ok (.iload_n 1, 1) := by decide +kernel
theorem dX0_loweredPriority_5 : decode cX0_loweredPriority 5 = .ok (.iload_n 2, 1) := by decide +kernel
theorem dX0_loweredPriority_6 : decode cX0_loweredPriority 6 = .ok (.invokestatic 70, 3) := by decide +kernel
theorem dX0_loweredPriority_9 : decode cX0_loweredPriority 9 = .ok (.iaload, 1) := by decide +kernel
theorem dX0_loweredPriority_10 : decode cX0_loweredPriority 10 = .ok (.istore_n 3, 1) := by decide +kernel
theorem dX0_loweredPriority_11 : decode cX0_loweredPriority 11 = .ok (.iconst 0, 1) := by decide +kernel
theorem dX0_loweredPriority_12 : decode cX0_loweredPriority 12 = .ok (.istore 4, 2) := by decide +kernel
theorem dX0_loweredPriority_14 : decode cX0_loweredPriority 14 = .ok (.iload 4, 2) := by decide +kernel
theorem dX0_loweredPriority_16 : decode cX0_loweredPriority 16 = .ok (.iconst 2, 1) := by decide +kernel
theorem dX0_loweredPriority_17 : decode cX0_loweredPriority 17 = .ok (.if_icmp .ge 37, 3) := by decide +kernel
theorem dX0_loweredPriority_20 : decode cX0_loweredPriority 20 = .ok (.iload_n 1, 1) := by decide +kernel
theorem dX0_loweredPriority_21 : decode cX0_loweredPriority 21 = .ok (.iload 4, 2) := by decide +kernel
theorem dX0_loweredPriority_23 : decode cX0_loweredPriority 23 = .ok (.invokestatic 84, 3) := by decide +kernel
theorem dX0_loweredPriority_26 : decode cX0_loweredPriority 26 = .ok (.istore 5, 2) := by decide +kernel
theorem dX0_loweredPriority_28 : decode cX0_loweredPriority 28 = .ok (.aload_n 0, 1) := by decide +kernel
theorem dX0_loweredPriority_29 : decode cX0_loweredPriority 29 = .ok (.getfield 16, 3) := by decide +kernel
theorem dX0_loweredPriority_32 : decode cX0_loweredPriority 32 = .ok (.iload 5, 2) := by decide +kernel
theorem dX0_loweredPriority_34 : decode cX0_loweredPriority 34 = .ok (.baload, 1) := by decide +kernel
theorem dX0_loweredPriority_35 : decode cX0_loweredPriority 35 = .ok (.ifCond .ne 13, 3) := by decide +kernel
theorem dX0_loweredPriority_38 : decode cX0_loweredPriority 38 = .ok (.iload_n 3, 1) := by decide +kernel
theorem dX0_loweredPriority_39 : decode cX0_loweredPriority 39 = .ok (.aload_n 0, 1) := by decide +kernel
theorem dX0_loweredPriority_40 : decode cX0_loweredPriority 40 = .ok (.getfield 19, 3) := by decide +kernel
theorem dX0_loweredPriority_43 : decode cX0_loweredPriority 43 = .ok (.iload 5, 2) := by decide +kernel
theorem dX0_loweredPriority_45 : decode cX0_loweredPriority 45 = .ok (.iaload, 1) := by decide +kernel
theorem dX0_loweredPriority_46 : decode cX0_loweredPriority 46 = .ok (.isub, 1) := by decide +kernel
theorem dX0_loweredPriority_47 : decode cX0_loweredPriority 47 = .ok (.istore_n 3, 1) := by decide +kernel
theorem dX0_loweredPriority_48 : decode cX0_loweredPriority 48 = .ok (.iinc 4 1, 3) := by decide +kernel
theorem dX0_loweredPriority_51 : decode cX0_loweredPriority 51 = .ok (.goto (-37), 3) := by decide +kernel
theorem dX0_loweredPriority_54 : decode cX0_loweredPriority 54 = .ok (.iload_n 3, 1) := by decide +kernel
theorem dX0_loweredPriority_55 : decode cX0_loweredPriority 55 = .ok (.iconst 1, 1) := by decide +kernel
theorem dX0_loweredPriority_56 : decode cX0_loweredPriority 56 = .ok (.invokestatic 150, 3) := by decide +kernel
theorem dX0_loweredPriority_59 : decode cX0_loweredPriority 59 = .ok (.ireturn, 1) := by decide +kernel
set_option maxRecDepth 20000 in
theorem ggX0_waitOf_X0_skewOf : GoodIn wsX0_waitOf wsX0_skewOf := goodIn_r _ [6, 1, 7, 8, 9, 10, 11, 12, 13, 14, 15, 16, 17, 18, 19, 20, 21, 22, 23, 24] (by decide +kernel) (by decide +kernel)
set_option maxRecDepth 20000 in
theorem gX0_waitOf_X0_skewOf : GoodIn wsX0_waitOf (wsV RX0 144 RX0 yX0_skewOf wsX0_skewOf) := goodIn_app (goodIn_of _ (by decide +kernel)) ggX0_waitOf_X0_skewOf
theorem dX0_waitOf_0 : decode cX0_waitOf 0 = .ok (.iconst 3, 1) := by decide +kernel
theorem dX0_waitOf_1 : decode cX0_waitOf 1 = .ok (.aload_n 0, 1) := by decide +kernel
theorem dX0_waitOf_2 : decode cX0_waitOf 2 = .ok (.getfield 23, 3) := by decide +kernel
theorem dX0_waitOf_5 : decode cX0_waitOf 5 = .ok (.iload_n 2, 1) := by decide +kernel
theorem dX0_waitOf_6 : decode cX0_waitOf 6 = .ok (.iaload, 1) := by decide +kernel
theorem dX0_waitOf_7 : decode cX0_waitOf 7 = .ok (.imul, 1) := by decide +kernel
theorem dX0_waitOf_8 : decode cX0_waitOf 8 = .ok (.aload_n 0, 1) := by decide +kernel
theorem dX0_waitOf_9 : decode cX0_waitOf 9 = .ok (.iload_n 1, 1) := by decide +kernel
theorem dX0_waitOf_10 : decode cX0_waitOf 10 = .ok (.iload_n 2, 1) := by decide +kernel
theorem dX0_waitOf_11 : decode cX0_waitOf 11 = .ok (.invokevirtual 144, 3) := by decide +kernel
theorem dX0_waitOf_14 : decode cX0_waitOf 14 = .ok (.iadd, 1) := by decide +kernel
theorem dX0_waitOf_15 : decode cX0_waitOf 15 = .ok (.ireturn, 1) := by decide +kernel
theorem dX0_skewOf_0 : decode cX0_skewOf 0 = .ok (.aload_n 0, 1) := by decide +kernel
theorem dX0_skewOf_1 : decode cX0_skewOf 1 = .ok (.getfield 23, 3) := by decide +kernel
theorem dX0_skewOf_4 : decode cX0_skewOf 4 = .ok (.iload_n 2, 1) := by decide +kernel
theorem dX0_skewOf_5 : decode cX0_skewOf 5 = .ok (.iaload, 1) := by decide +kernel
theorem dX0_skewOf_6 : decode cX0_skewOf 6 = .ok (.sipush 256, 3) := by decide +kernel
theorem dX0_skewOf_9 : decode cX0_skewOf 9 = .ok (.iload_n 1, 1) := by decide +kernel
theorem dX0_skewOf_10 : decode cX0_skewOf 10 = .ok (.isub, 1) := by decide +kernel
theorem dX0_skewOf_11 : decode cX0_skewOf 11 = .ok (.imul, 1) := by decide +kernel
theorem dX0_skewOf_12 : decode cX0_skewOf 12 = .ok (.sipush 256, 3) := by decide +kernel
theorem dX0_skewOf_15 : decode cX0_skewOf 15 = .ok (.idiv, 1) := by decide +kernel
theorem dX0_skewOf_16 : decode cX0_skewOf 16 = .ok (.ireturn, 1) := by decide +kernel
theorem dX0_placeOf_0 : decode cX0_placeOf 0 = .ok (.iload_n 1, 1) := by decide +kernel
theorem dX0_placeOf_1 : decode cX0_placeOf 1 = .ok (.iconst 4, 1) := by decide +kernel
theorem dX0_placeOf_2 : decode cX0_placeOf 2 = .ok (.imul, 1) := by decide +kernel
theorem dX0_placeOf_3 : decode cX0_placeOf 3 = .ok (.iload_n 0, 1) := by decide +kernel
theorem dX0_placeOf_4 : decode cX0_placeOf 4 = .ok (.iadd, 1) := by decide +kernel
theorem dX0_placeOf_5 : decode cX0_placeOf 5 = .ok (.ireturn, 1) := by decide +kernel
theorem dX0_linkOf_0 : decode cX0_linkOf 0 = .ok (.iload_n 0, 1) := by decide +kernel
theorem dX0_linkOf_1 : decode cX0_linkOf 1 = .ok (.iconst 2, 1) := by decide +kernel
theorem dX0_linkOf_2 : decode cX0_linkOf 2 = .ok (.imul, 1) := by decide +kernel
theorem dX0_linkOf_3 : decode cX0_linkOf 3 = .ok (.iload_n 1, 1) := by decide +kernel
theorem dX0_linkOf_4 : decode cX0_linkOf 4 = .ok (.iadd, 1) := by decide +kernel
theorem dX0_linkOf_5 : decode cX0_linkOf 5 = .ok (.ireturn, 1) := by decide +kernel
theorem dX0_checkRouter_0 : decode cX0_checkRouter 0 = .ok (.iload_n 0, 1) := by decide +kernel
theorem dX0_checkRouter_1 : decode cX0_checkRouter 1 = .ok (.ifCond .lt 8, 3) := by decide +kernel
theorem dX0_checkRouter_4 : decode cX0_checkRouter 4 = .ok (.iload_n 0, 1) := by decide +kernel
theorem dX0_checkRouter_5 : decode cX0_checkRouter 5 = .ok (.iconst 4, 1) := by decide +kernel
theorem dX0_checkRouter_6 : decode cX0_checkRouter 6 = .ok (.if_icmp .lt 13, 3) := by decide +kernel
theorem dX0_checkRouter_9 : decode cX0_checkRouter 9 = .ok (.new 87, 3) := by decide +kernel
theorem dX0_checkRouter_12 : decode cX0_checkRouter 12 = .ok (.dup, 1) := by decide +kernel
theorem dX0_checkRouter_13 : decode cX0_checkRouter 13 = .ok (.ldc 155, 2) := by decide +kernel
theorem dX0_checkRouter_15 : decode cX0_checkRouter 15 = .ok (.invokespecial 91, 3) := by decide +kernel
theorem dX0_checkRouter_18 : decode cX0_checkRouter 18 = .ok (.athrow, 1) := by decide +kernel
theorem dX0_checkRouter_19 : decode cX0_checkRouter 19 = .ok (.return_, 1) := by decide +kernel
theorem dX0_checkGroup_0 : decode cX0_checkGroup 0 = .ok (.iload_n 0, 1) := by decide +kernel
theorem dX0_checkGroup_1 : decode cX0_checkGroup 1 = .ok (.ifCond .lt 8, 3) := by decide +kernel
theorem dX0_checkGroup_4 : decode cX0_checkGroup 4 = .ok (.iload_n 0, 1) := by decide +kernel
theorem dX0_checkGroup_5 : decode cX0_checkGroup 5 = .ok (.iconst 3, 1) := by decide +kernel
theorem dX0_checkGroup_6 : decode cX0_checkGroup 6 = .ok (.if_icmp .lt 13, 3) := by decide +kernel
theorem dX0_checkGroup_9 : decode cX0_checkGroup 9 = .ok (.new 87, 3) := by decide +kernel
theorem dX0_checkGroup_12 : decode cX0_checkGroup 12 = .ok (.dup, 1) := by decide +kernel
theorem dX0_checkGroup_13 : decode cX0_checkGroup 13 = .ok (.ldc 157, 2) := by decide +kernel
theorem dX0_checkGroup_15 : decode cX0_checkGroup 15 = .ok (.invokespecial 91, 3) := by decide +kernel
theorem dX0_checkGroup_18 : decode cX0_checkGroup 18 = .ok (.athrow, 1) := by decide +kernel
theorem dX0_checkGroup_19 : decode cX0_checkGroup 19 = .ok (.return_, 1) := by decide +kernel
theorem dX0_checkLink_0 : decode cX0_checkLink 0 = .ok (.iload_n 0, 1) := by decide +kernel
theorem dX0_checkLink_1 : decode cX0_checkLink 1 = .ok (.ifCond .lt 8, 3) := by decide +kernel
theorem dX0_checkLink_4 : decode cX0_checkLink 4 = .ok (.iload_n 0, 1) := by decide +kernel
theorem dX0_checkLink_5 : decode cX0_checkLink 5 = .ok (.iconst 2, 1) := by decide +kernel
theorem dX0_checkLink_6 : decode cX0_checkLink 6 = .ok (.if_icmp .lt 13, 3) := by decide +kernel
theorem dX0_checkLink_9 : decode cX0_checkLink 9 = .ok (.new 87, 3) := by decide +kernel
theorem dX0_checkLink_12 : decode cX0_checkLink 12 = .ok (.dup, 1) := by decide +kernel
theorem dX0_checkLink_13 : decode cX0_checkLink 13 = .ok (.ldc 159, 2) := by decide +kernel
theorem dX0_checkLink_15 : decode cX0_checkLink 15 = .ok (.invokespecial 91, 3) := by decide +kernel
theorem dX0_checkLink_18 : decode cX0_checkLink 18 = .ok (.athrow, 1) := by decide +kernel
theorem dX0_checkLink_19 : decode cX0_checkLink 19 = .ok (.return_, 1) := by decide +kernel
theorem dX0_checkRange_0 : decode cX0_checkRange 0 = .ok (.iload_n 0, 1) := by decide +kernel
theorem dX0_checkRange_1 : decode cX0_checkRange 1 = .ok (.iload_n 1, 1) := by decide +kernel
theorem dX0_checkRange_2 : decode cX0_checkRange 2 = .ok (.if_icmp .lt 8, 3) := by decide +kernel
theorem dX0_checkRange_5 : decode cX0_checkRange 5 = .ok (.iload_n 0, 1) := by decide +kernel
theorem dX0_checkRange_6 : decode cX0_checkRange 6 = .ok (.iload_n 2, 1) := by decide +kernel
theorem dX0_checkRange_7 : decode cX0_checkRange 7 = .ok (.if_icmp .le 13, 3) := by decide +kernel
theorem dX0_checkRange_10 : decode cX0_checkRange 10 = .ok (.new 87, 3) := by decide +kernel
theorem dX0_checkRange_13 : decode cX0_checkRange 13 = .ok (.dup, 1) := by decide +kernel
theorem dX0_checkRange_14 : decode cX0_checkRange 14 = .ok (.ldc 161, 2) := by decide +kernel
theorem dX0_checkRange_16 : decode cX0_checkRange 16 = .ok (.invokespecial 91, 3) := by decide +kernel
theorem dX0_checkRange_19 : decode cX0_checkRange 19 = .ok (.athrow, 1) := by decide +kernel
theorem dX0_checkRange_20 : decode cX0_checkRange 20 = .ok (.return_, 1) := by decide +kernel
