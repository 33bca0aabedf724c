theorem dX5_addCalling_11 : decode cX5_addCalling 11 = .ok (.getfield 43, 3) := by decide +kernel
theorem dX5_addCalling_14 : decode cX5_addCalling 14 = .ok (.aload_n 0, 1) := by decide +kernel
theorem dX5_addCalling_15 : decode cX5_addCalling 15 = .ok (.getfield 37, 3) := by decide +kernel
theorem dX5_addCalling_18 : decode cX5_addCalling 18 = .ok (.iload_n 2, 1) := by decide +kernel
theorem dX5_addCalling_19 : decode cX5_addCalling 19 = .ok (.iastore, 1) := by decide +kernel
theorem dX5_addCalling_20 : decode cX5_addCalling 20 = .ok (.aload_n 0, 1) := by decide +kernel
theorem dX5_addCalling_21 : decode cX5_addCalling 21 = .ok (.getfield 46, 3) := by decide +kernel
theorem dX5_addCalling_24 : decode cX5_addCalling 24 = .ok (.aload_n 0, 1) := by decide +kernel
theorem dX5_addCalling_25 : decode cX5_addCalling 25 = .ok (.getfield 37, 3) := by decide +kernel
theorem dX5_addCalling_28 : decode cX5_addCalling 28 = .ok (.iload_n 3, 1) := by decide +kernel
theorem dX5_addCalling_29 : decode cX5_addCalling 29 = .ok (.iastore, 1) := by decide +kernel
theorem dX5_addCalling_30 : decode cX5_addCalling 30 = .ok (.aload_n 0, 1) := by decide +kernel
theorem dX5_addCalling_31 : decode cX5_addCalling 31 = .ok (.getfield 49, 3) := by decide +kernel
theorem dX5_addCalling_34 : decode cX5_addCalling 34 = .ok (.aload_n 0, 1) := by decide +kernel
theorem dX5_addCalling_35 : decode cX5_addCalling 35 = .ok (.getfield 37, 3) := by decide +kernel
theorem dX5_addCalling_38 : decode cX5_addCalling 38 = .ok (.aload_n 0, 1) := by decide +kernel
theorem dX5_addCalling_39 : decode cX5_addCalling 39 = .ok (.getfield 27, 3) := by decide +kernel
theorem dX5_addCalling_42 : decode cX5_addCalling 42 = .ok (.iastore, 1) := by decide +kernel
theorem dX5_addCalling_43 : decode cX5_addCalling 43 = .ok (.aload_n 0, 1) := by decide +kernel
theorem dX5_addCalling_44 : decode cX5_addCalling 44 = .ok (.dup, 1) := by decide +kernel
theorem dX5_addCalling_45 : decode cX5_addCalling 45 = .ok (.getfield 37, 3) := by decide +kernel
theorem dX5_addCalling_48 : decode cX5_addCalling 48 = .ok (.iconst 1, 1) := by decide +kernel
theorem dX5_addCalling_49 : decode cX5_addCalling 49 = .ok (.iadd, 1) := by decide +kernel
theorem dX5_addCalling_50 : decode cX5_addCalling 50 = .ok (.putfield 37, 3) := by decide +kernel
theorem dX5_addCalling_53 : decode cX5_addCalling 53 = .ok (.return_, 1) := by decide +kernel
theorem dX5_endsLike_0 : decode cX5_endsLike 0 = .ok (.aload_n 0, 1) := by decide +kernel
theorem dX5_endsLike_1 : decode cX5_endsLike 1 = .ok (.getfield 15, 3) := by decide +kernel
theorem dX5_endsLike_4 : decode cX5_endsLike 4 = .ok (.aload_n 1, 1) := by decide +kernel
theorem dX5_endsLike_5 : decode cX5_endsLike 5 = .ok (.getfield 15, 3) := by decide +kernel
theorem dX5_endsLike_8 : decode cX5_endsLike 8 = .ok (.if_icmp .ne 18, 3) := by decide +kernel
theorem dX5_endsLike_11 : decode cX5_endsLike 11 = .ok (.aload_n 0, 1) := by decide +kernel
theorem dX5_endsLike_12 : decode cX5_endsLike 12 = .ok (.getfield 18, 3) := by decide +kernel
theorem dX5_endsLike_15 : decode cX5_endsLike 15 = .ok (.aload_n 1, 1) := by decide +kernel
theorem dX5_endsLike_16 : decode cX5_endsLike 16 = .ok (.getfield 18, 3) := by decide +kernel
theorem dX5_endsLike_19 : decode cX5_endsLike 19 = .ok (.if_icmp .ne 7, 3) := by decide +kernel
theorem dX5_endsLike_22 : decode cX5_endsLike 22 = .ok (.iconst 1, 1) := by decide +kernel
theorem dX5_endsLike_23 : decode cX5_endsLike 23 = .ok (.goto 4, 3) := by decide +kernel
theorem dX5_endsLike_26 : decode cX5_endsLike 26 = .ok (.iconst 0, 1) := by decide +kernel
theorem dX5_endsLike_27 : decode cX5_endsLike 27 = .ok (.ireturn, 1) := by decide +kernel
theorem dX5_sameCalling_0 : decode cX5_sameCalling 0 = .ok (.aload_n 0, 1) := by decide +kernel
theorem dX5_sameCalling_1 : decode cX5_sameCalling 1 = .ok (.getfield 43, 3) := by decide +kernel
theorem dX5_sameCalling_4 : decode cX5_sameCalling 4 = .ok (.iload_n 2, 1) := by decide +kernel
theorem dX5_sameCalling_5 : decode cX5_sameCalling 5 = .ok (.iaload, 1) := by decide +kernel
theorem dX5_sameCalling_6 : decode cX5_sameCalling 6 = .ok (.aload_n 1, 1) := by decide +kernel
theorem dX5_sameCalling_7 : decode cX5_sameCalling 7 = .ok (.getfield 43, 3) := by decide +kernel
theorem dX5_sameCalling_10 : decode cX5_sameCalling 10 = .ok (.iload_n 2, 1) := by decide +kernel
theorem dX5_sameCalling_11 : decode cX5_sameCalling 11 = .ok (.iaload, 1) := by decide +kernel
theorem dX5_sameCalling_12 : decode cX5_sameCalling 12 = .ok (.if_icmp .ne 37, 3) := by decide +kernel
theorem dX5_sameCalling_15 : decode cX5_sameCalling 15 = .ok (.aload_n 0, 1) := by decide +kernel
theorem dX5_sameCalling_16 : decode cX5_sameCalling 16 = .ok (.getfield 46, 3) := by decide +kernel
theorem dX5_sameCalling_19 : decode cX5_sameCalling 19 = .ok (.iload_n 2, 1) := by decide +kernel
theorem dX5_sameCalling_20 : decode cX5_sameCalling 20 = .ok (.iaload, 1) := by decide +kernel
theorem dX5_sameCalling_21 : decode cX5_sameCalling 21 = .ok (.aload_n 1, 1) := by decide +kernel
theorem dX5_sameCalling_22 : decode cX5_sameCalling 22 = .ok (.getfield 46, 3) := by decide +kernel
theorem dX5_sameCalling_25 : decode cX5_sameCalling 25 = .ok (.iload_n 2, 1) := by decide +kernel
theorem dX5_sameCalling_26 : decode cX5_sameCalling 26 = .ok (.iaload, 1) := by decide +kernel
theorem dX5_sameCalling_27 : decode cX5_sameCalling 27 = .ok (.if_icmp .ne 22, 3) := by decide +kernel
theorem dX5_sameCalling_30 : decode cX5_sameCalling 30 = .ok (.aload_n 0, 1) := by decide +kernel
theorem dX5_sameCalling_31 : decode cX5_sameCalling 31 = .ok (.getfield 49, 3) := by decide +kernel
theorem dX5_sameCalling_34 : decode cX5_sameCalling 34 = .ok (.iload_n 2, 1) := by decide +kernel
theorem dX5_sameCalling_35 : decode cX5_sameCalling 35 = .ok (.iaload, 1) := by decide +kernel
theorem dX5_sameCalling_36 : decode cX5_sameCalling 36 = .ok (.aload_n 1, 1) := by decide +kernel
theorem dX5_sameCalling_37 : decode cX5_sameCalling 37 = .ok (.getfield 49, 3) := by decide +kernel
theorem dX5_sameCalling_40 : decode cX5_sameCalling 40 = .ok (.iload_n 2, 1) := by decide +kernel
theorem dX5_sameCalling_41 : decode cX5_sameCalling 41 = .ok (.iaload, 1) := by decide +kernel
theorem dX5_sameCalling_42 : decode cX5_sameCalling 42 = .ok (.if_icmp .ne 7, 3) := by decide +kernel
theorem dX5_sameCalling_45 : decode cX5_sameCalling 45 = .ok (.iconst 1, 1) := by decide +kernel
theorem dX5_sameCalling_46 : decode cX5_sameCalling 46 = .ok (.goto 4, 3) := by decide +kernel
theorem dX5_sameCalling_49 : decode cX5_sameCalling 49 = .ok (.iconst 0, 1) := by decide +kernel
theorem dX5_sameCalling_50 : decode cX5_sameCalling 50 = .ok (.ireturn, 1) := by decide +kernel
theorem ggX6_init_X0_init : GoodIn wsX6_init wsX0_init := goodIn_mem (fun _ h => List.mem_cons_of_mem _ (List.mem_append_left _ (List.mem_append_left _ (List.mem_append_left _ (List.mem_append_left _ (List.mem_append_left _ (List.mem_append_left _ (List.mem_append_left _ (List.mem_append_right _ (List.mem_append_right _ (List.mem_append_left _ h))))))))))) ok_wsX0_init
set_option maxRecDepth 20000 in
theorem gX6_init_X0_init_n9 : GoodIn wsX6_init (wsX0_init) := ggX6_init_X0_init
theorem ggX6_init_X3_init : GoodIn wsX6_init wsX3_init := goodIn_mem (fun _ h => List.mem_cons_of_mem _ (List.mem_append_left _ (List.mem_append_left _ (List.mem_append_left _ (List.mem_append_left _ (List.mem_append_left _ (List.mem_append_left _ (List.mem_append_left _ (List.mem_append_right _ (List.mem_append_right _ (List.mem_append_right _ (List.mem_append_left _ h)))))))))))) ok_wsX3_init
set_option maxRecDepth 20000 in
theorem gX6_init_X3_init_n21 : GoodIn wsX6_init (wsX3_init) := ggX6_init_X3_init
theorem ggX6_init_X2_init : GoodIn wsX6_init wsX2_init := goodIn_mem (fun _ h => List.mem_cons_of_mem _ (List.mem_append_left _ (List.mem_append_left _ (List.mem_append_left _ (List.mem_append_left _ (List.mem_append_left _ (List.mem_append_left _ (List.mem_append_left _ (List.mem_append_right _ (List.mem_append_right _ (List.mem_append_right _ (List.mem_append_right _ (List.mem_append_left _ h))))))))))))) ok_wsX2_init
set_option maxRecDepth 20000 in
theorem gX6_init_X2_init_n31 : GoodIn wsX6_init (wsX2_init) := ggX6_init_X2_init
theorem ggX6_init_X4_init : GoodIn wsX6_init wsX4_init := goodIn_mem (fun _ h => List.mem_cons_of_mem _ (List.mem_append_left _ (List.mem_append_left _ (List.mem_append_left _ (List.mem_append_left _ (List.mem_append_left _ (List.mem_append_left _ (List.mem_append_left _ (List.mem_append_right _ (List.mem_append_right _ (List.mem_append_right _ (List.mem_append_right _ (List.mem_append_right _ (List.mem_append_left _ h)))))))))))))) ok_wsX4_init
set_option maxRecDepth 20000 in
theorem gX6_init_X4_init_n38 : GoodIn wsX6_init (wsX4_init) := ggX6_init_X4_init
theorem ggX6_init_X1_init : GoodIn wsX6_init wsX1_init := goodIn_mem (fun _ h => List.mem_cons_of_mem _ (List.mem_append_left _ (List.mem_append_left _ (List.mem_append_left _ (List.mem_append_left _ (List.mem_append_left _ (List.mem_append_left _ (List.mem_append_left _ (List.mem_append_right _ (List.mem_append_right _ (List.mem_append_right _ (List.mem_append_right _ (List.mem_append_right _ (List.mem_append_right _ h)))))))))))))) ok_wsX1_init
set_option maxRecDepth 20000 in
theorem gX6_init_X1_init : GoodIn wsX6_init (wsX1_init) := ggX6_init_X1_init
theorem dX6_init_0 : decode cX6_init 0 = .ok (.aload_n 0, 1) := by decide +kernel
theorem dX6_init_1 : decode cX6_init 1 = .ok (.invokespecial 1, 3) := by decide +kernel
theorem dX6_init_4 : decode cX6_init 4 = .ok (.aload_n 0, 1) := by decide +kernel
theorem dX6_init_5 : decode cX6_init 5 = .ok (.new 7, 3) := by decide +kernel
theorem dX6_init_8 : decode cX6_init 8 = .ok (.dup, 1) := by decide +kernel
theorem dX6_init_9 : decode cX6_init 9 = .ok (.invokespecial 9, 3) := by decide +kernel
theorem dX6_init_12 : decode cX6_init 12 = .ok (.putfield 10, 3) := by decide +kernel
theorem dX6_init_15 : decode cX6_init 15 = .ok (.aload_n 0, 1) := by decide +kernel
theorem dX6_init_16 : decode cX6_init 16 = .ok (.new 7, 3) := by decide +kernel
theorem dX6_init_19 : decode cX6_init 19 = .ok (.dup, 1) := by decide +kernel
theorem dX6_init_20 : decode cX6_init 20 = .ok (.invokespecial 9, 3) := by decide +kernel
theorem dX6_init_23 : decode cX6_init 23 = .ok (.putfield 16, 3) := by decide +kernel
theorem dX6_init_26 : decode cX6_init 26 = .ok (.aload_n 0, 1) := by decide +kernel
theorem dX6_init_27 : decode cX6_init 27 = .ok (.new 19, 3) := by decide +kernel
theorem dX6_init_30 : decode cX6_init 30 = .ok (.dup, 1) := by decide +kernel
theorem dX6_init_31 : decode cX6_init 31 = .ok (.invokespecial 21, 3) := by decide +kernel
theorem dX6_init_34 : decode cX6_init 34 = .ok (.putfield 22, 3) := by decide +kernel
theorem dX6_init_37 : decode cX6_init 37 = .ok (.aload_n 0, 1) := by decide +kernel
theorem dX6_init_38 : decode cX6_init 38 = .ok (.new 19, 3) := by decide +kernel
theorem dX6_init_41 : decode cX6_init 41 = .ok (.dup, 1) := by decide +kernel
theorem dX6_init_42 : decode cX6_init 42 = .ok (.invokespecial 21, 3) := by decide +kernel
theorem dX6_init_45 : decode cX6_init 45 = .ok (.putfield 26, 3) := by decide +kernel
theorem dX6_init_48 : decode cX6_init 48 = .ok (.aload_n 0, 1) := by decide +kernel
theorem dX6_init_49 : decode cX6_init 49 = .ok (.new 29, 3) := by decide +kernel
theorem dX6_init_52 : decode cX6_init 52 = .ok (.dup, 1) := by decide +kernel
theorem dX6_init_53 : decode cX6_init 53 = .ok (.invokespecial 31, 3) := by decide +kernel
theorem dX6_init_56 : decode cX6_init 56 = .ok (.putfield 32, 3) := by decide +kernel
theorem dX6_init_59 : decode cX6_init 59 = .ok (.aload_n 0, 1) := by decide +kernel
theorem dX6_init_60 : decode cX6_init 60 = .ok (.new 36, 3) := by decide +kernel
theorem dX6_init_63 : decode cX6_init 63 = .ok (.dup, 1) := by decide +kernel
theorem dX6_init_64 : decode cX6_init 64 = .ok (.invokespecial 38, 3) := by decide +kernel
theorem dX6_init_67 : decode cX6_init 67 = .ok (.putfield 39, 3) := by decide +kernel
theorem dX6_init_70 : decode cX6_init 70 = .ok (.aload_n 0, 1) := by decide +kernel
theorem dX6_init_71 : decode cX6_init 71 = .ok (.iconst (-1), 1) := by decide +kernel
theorem dX6_init_72 : decode cX6_init 72 = .ok (.putfield 43, 3) := by decide +kernel
theorem dX6_init_75 : decode cX6_init 75 = .ok (.aload_n 0, 1) := by decide +kernel
theorem dX6_init_76 : decode cX6_init 76 = .ok (.iconst (-1), 1) := by decide +kernel
theorem dX6_init_77 : decode cX6_init 77 = .ok (.putfield 47, 3) := by decide +kernel
theorem dX6_init_80 : decode cX6_init 80 = .ok (.aload_n 0, 1) := by decide +kernel
theorem dX6_init_81 : decode cX6_init 81 = .ok (.iconst (-1), 1) := by decide +kernel
theorem dX6_init_82 : decode cX6_init 82 = .ok (.putfield 50, 3) := by decide +kernel
theorem dX6_init_85 : decode cX6_init 85 = .ok (.aload_n 0, 1) := by decide +kernel
theorem dX6_init_86 : decode cX6_init 86 = .ok (.iconst (-1), 1) := by decide +kernel
theorem dX6_init_87 : decode cX6_init 87 = .ok (.putfield 53, 3) := by decide +kernel
theorem dX6_init_90 : decode cX6_init 90 = .ok (.aload_n 0, 1) := by decide +kernel
theorem dX6_init_91 : decode cX6_init 91 = .ok (.iload_n 1, 1) := by decide +kernel
theorem dX6_init_92 : decode cX6_init 92 = .ok (.iconst 1, 1) := by decide +kernel
theorem dX6_init_93 : decode cX6_init 93 = .ok (.iand, 1) := by decide +kernel
theorem dX6_init_94 : decode cX6_init 94 = .ok (.ifCond .eq 7, 3) := by decide +kernel
theorem dX6_init_97 : decode cX6_init 97 = .ok (.iconst 3, 1) := by decide +kernel
theorem dX6_init_98 : decode cX6_init 98 = .ok (.goto 4, 3) := by decide +kernel
theorem dX6_init_101 : decode cX6_init 101 = .ok (.iconst 2, 1) := by decide +kernel
theorem dX6_init_102 : decode cX6_init 102 = .ok (.putfield 56, 3) := by decide +kernel
theorem dX6_init_105 : decode cX6_init 105 = .ok (.aload_n 0, 1) := by decide +kernel
theorem dX6_init_106 : decode cX6_init 106 = .ok (.iconst 1, 1) := by decide +kernel
theorem dX6_init_107 : decode cX6_init 107 = .ok (.aload_n 0, 1) := by decide +kernel
theorem dX6_init_108 : decode cX6_init 108 = .ok (.getfield 56, 3) := by decide +kernel
theorem dX6_init_111 : decode cX6_init 111 = .ok (.ishl, 1) := by decide +kernel
theorem dX6_init_112 : decode cX6_init 112 = .ok (.iconst 1, 1) := by decide +kernel
theorem dX6_init_113 : decode cX6_init 113 = .ok (.isub, 1) := by decide +kernel
theorem dX6_init_114 : decode cX6_init 114 = .ok (.putfield 59, 3) := by decide +kernel
theorem dX6_init_117 : decode cX6_init 117 = .ok (.aload_n 0, 1) := by decide +kernel
theorem dX6_init_118 : decode cX6_init 118 = .ok (.new 62, 3) := by decide +kernel
theorem dX6_init_121 : decode cX6_init 121 = .ok (.dup, 1) := by decide +kernel
theorem dX6_init_122 : decode cX6_init 122 = .ok (.aload_n 0, 1) := by decide +kernel
theorem dX6_init_123 : decode cX6_init 123 = .ok (.getfield 10, 3) := by decide +kernel
theorem dX6_init_126 : decode cX6_init 126 = .ok (.aload_n 0, 1) := by decide +kernel
theorem dX6_init_127 : decode cX6_init 127 = .ok (.getfield 59, 3) := by decide +kernel
theorem dX6_init_130 : decode cX6_init 130 = .ok (.iconst 0, 1) := by decide +kernel
theorem dX6_init_131 : decode cX6_init 131 = .ok (.invokespecial 64, 3) := by decide +kernel
theorem dX6_init_134 : decode cX6_init 134 = .ok (.putfield 67, 3) := by decide +kernel
theorem dX6_init_137 : decode cX6_init 137 = .ok (.aload_n 0, 1) := by decide +kernel
theorem dX6_init_138 : decode cX6_init 138 = .ok (.new 62, 3) := by decide +kernel
theorem dX6_init_141 : decode cX6_init 141 = .ok (.dup, 1) := by decide +kernel
theorem dX6_init_142 : decode cX6_init 142 = .ok (.aload_n 0, 1) := by decide +kernel
theorem dX6_init_143 : decode cX6_init 143 = .ok (.getfield 10, 3) := by decide +kernel
theorem dX6_init_146 : decode cX6_init 146 = .ok (.aload_n 0, 1) := by decide +kernel
theorem dX6_init_147 : decode cX6_init 147 = .ok (.getfield 59, 3) := by decide +kernel
theorem dX6_init_150 : decode cX6_init 150 = .ok (.iconst 0, 1) := by decide +kernel
theorem dX6_init_151 : decode cX6_init 151 = .ok (.invokespecial 64, 3) := by decide +kernel
theorem dX6_init_154 : decode cX6_init 154 = .ok (.putfield 71, 3) := by decide +kernel
theorem dX6_init_157 : decode cX6_init 157 = .ok (.aload_n 0, 1) := by decide +kernel
theorem dX6_init_158 : decode cX6_init 158 = .ok (.new 62, 3) := by decide +kernel
theorem dX6_init_161 : decode cX6_init 161 = .ok (.dup, 1) := by decide +kernel
theorem dX6_init_162 : decode cX6_init 162 = .ok (.aload_n 0, 1) := by decide +kernel
theorem dX6_init_163 : decode cX6_init 163 = .ok (.getfield 16, 3) := by decide +kernel
theorem dX6_init_166 : decode cX6_init 166 = .ok (.aload_n 0, 1) := by decide +kernel
theorem dX6_init_167 : decode cX6_init 167 = .ok (.getfield 59, 3) := by decide +kernel
theorem dX6_init_170 : decode cX6_init 170 = .ok (.iconst 0, 1) := by decide +kernel
theorem dX6_init_171 : decode cX6_init 171 = .ok (.invokespecial 64, 3) := by decide +kernel
theorem dX6_init_174 : decode cX6_init 174 = .ok (.putfield 74, 3) := by decide +kernel
theorem dX6_init_177 : decode cX6_init 177 = .ok (.aload_n 0, 1) := by decide +kernel
theorem dX6_init_178 : decode cX6_init 178 = .ok (.new 62, 3) := by decide +kernel
theorem dX6_init_181 : decode cX6_init 181 = .ok (.dup, 1) := by decide +kernel
theorem dX6_init_182 : decode cX6_init 182 = .ok (.aload_n 0, 1) := by decide +kernel
theorem dX6_init_183 : decode cX6_init 183 = .ok (.getfield 10, 3) := by decide +kernel
theorem dX6_init_186 : decode cX6_init 186 = .ok (.aload_n 0, 1) := by decide +kernel
theorem dX6_init_187 : decode cX6_init 187 = .ok (.getfield 59, 3) := by decide +kernel
theorem dX6_init_190 : decode cX6_init 190 = .ok (.iconst 1, 1) := by decide +kernel
theorem dX6_init_191 : decode cX6_init 191 = .ok (.invokespecial 64, 3) := by decide +kernel
theorem dX6_init_194 : decode cX6_init 194 = .ok (.putfield 77, 3) := by decide +kernel
theorem dX6_init_197 : decode cX6_init 197 = .ok (.aload_n 0, 1) := by decide +kernel
theorem dX6_init_198 : decode cX6_init 198 = .ok (.new 62, 3) := by decide +kernel
theorem dX6_init_201 : decode cX6_init 201 = .ok (.dup, 1) := by decide +kernel
theorem dX6_init_202 : decode cX6_init 202 = .ok (.aload_n 0, 1) := by decide +kernel
theorem dX6_init_203 : decode cX6_init 203 = .ok (.getfield 16, 3) := by decide +kernel
theorem dX6_init_206 : decode cX6_init 206 = .ok (.aload_n 0, 1) := by decide +kernel
theorem dX6_init_207 : decode cX6_init 207 = .ok (.getfield 59, 3) := by decide +kernel
theorem dX6_init_210 : decode cX6_init 210 = .ok (.iconst 1, 1) := by decide +kernel
theorem dX6_init_211 : decode cX6_init 211 = .ok (.invokespecial 64, 3) := by decide +kernel
theorem dX6_init_214 : decode cX6_init 214 = .ok (.putfield 80, 3) := by decide +kernel
theorem dX6_init_217 : decode cX6_init 217 = .ok (.return_, 1) := by decide +kernel
theorem ggX6_method_X6_within : GoodIn wsX6_method wsX6_within := goodIn_mem (fun _ h => List.mem_cons_of_mem _ (List.mem_append_left _ (List.mem_append_left _ (List.mem_append_right _ (List.mem_append_left _ h))))) ok_wsX6_within
set_option maxRecDepth 20000 in
theorem gX6_method_X6_within : GoodIn wsX6_method (va_wsS RX6 83 yX6_within wsX6_within) := goodIn_app (goodIn_of _ (by decide +kernel)) ggX6_method_X6_within
theorem ggX6_method_X6_buildOf : GoodIn wsX6_method wsX6_buildOf := goodIn_mem (fun _ h => List.mem_cons_of_mem _ (List.mem_append_left _ (List.mem_append_left _ (List.mem_append_right _ (List.mem_append_right _ (List.mem_append_left _ h)))))) ok_wsX6_buildOf
set_option maxRecDepth 20000 in
theorem gX6_method_X6_buildOf : GoodIn wsX6_method (wsV RX6 87 RX6 yX6_buildOf wsX6_buildOf) := goodIn_app (goodIn_of _ (by decide +kernel)) ggX6_method_X6_buildOf
theorem ggX6_method_X0_addMethod : GoodIn wsX6_method wsX0_addMethod := goodIn_mem (fun _ h => List.mem_cons_of_mem _ (List.mem_append_left _ (List.mem_append_left _ (List.mem_append_right _ (List.mem_append_right _ (List.mem_append_right _ h)))))) ok_wsX0_addMethod
set_option maxRecDepth 20000 in
theorem gX6_method_X0_addMethod : GoodIn wsX6_method (wsV RX6 94 RX0 yX0_addMethod wsX0_addMethod) := goodIn_app (goodIn_of _ (by decide +kernel)) ggX6_method_X0_addMethod
theorem dX6_method_0 : decode cX6_method 0 = .ok (.iload_n 1, 1) := by decide +kernel
theorem dX6_method_1 : decode cX6_method 1 = .ok (.iconst 0, 1) := by decide +kernel
theorem dX6_method_2 : decode cX6_method 2 = .ok (.iconst 1, 1) := by decide +kernel
theorem dX6_method_3 : decode cX6_method 3 = .ok (.invokestatic 83, 3) := by decide +kernel
theorem dX6_method_6 : decode cX6_method 6 = .ok (.ifCond .ne 6, 3) := by decide +kernel
theorem dX6_method_9 : decode cX6_method 9 = .ok (.bipush (-101), 2) := by decide +kernel
theorem dX6_method_11 : decode cX6_method 11 = .ok (.ireturn, 1) := by decide +kernel
theorem dX6_method_12 : decode cX6_method 12 = .ok (.aload_n 0, 1) := by decide +kernel
theorem dX6_method_13 : decode cX6_method 13 = .ok (.iload_n 1, 1) := by decide +kernel
theorem dX6_method_14 : decode cX6_method 14 = .ok (.invokevirtual 87, 3) := by decide +kernel
theorem dX6_method_17 : decode cX6_method 17 = .ok (.astore_n 2, 1) := by decide +kernel
theorem dX6_method_18 : decode cX6_method 18 = .ok (.aload_n 2, 1) := by decide +kernel
theorem dX6_method_19 : decode cX6_method 19 = .ok (.getfield 91, 3) := by decide +kernel
theorem dX6_method_22 : decode cX6_method 22 = .ok (.bipush 6, 2) := by decide +kernel
theorem dX6_method_24 : decode cX6_method 24 = .ok (.if_icmp .ne 8, 3) := by decide +kernel
theorem dX6_method_27 : decode cX6_method 27 = .ok (.bipush (-104), 2) := by decide +kernel
theorem dX6_method_29 : decode cX6_method 29 = .ok (.goto 7, 3) := by decide +kernel
theorem dX6_method_32 : decode cX6_method 32 = .ok (.aload_n 2, 1) := by decide +kernel
theorem dX6_method_33 : decode cX6_method 33 = .ok (.invokevirtual 94, 3) := by decide +kernel
theorem dX6_method_36 : decode cX6_method 36 = .ok (.ireturn, 1) := by decide +kernel
theorem ggX6_op_X6_isMethod : GoodIn wsX6_op wsX6_isMethod := goodIn_mem (fun _ h => List.mem_cons_of_mem _ (List.mem_append_left _ (List.mem_append_left _ (List.mem_append_right _ (List.mem_append_left _ h))))) ok_wsX6_isMethod
set_option maxRecDepth 20000 in
theorem gX6_op_X6_isMethod : GoodIn wsX6_op (wsV RX6 98 RX6 yX6_isMethod wsX6_isMethod) := goodIn_app (goodIn_of _ (by decide +kernel)) ggX6_op_X6_isMethod
theorem ggX6_op_X6_within : GoodIn wsX6_op wsX6_within := goodIn_mem (fun _ h => List.mem_cons_of_mem _ (List.mem_append_left _ (List.mem_append_left _ (List.mem_append_right _ (List.mem_append_right _ (List.mem_append_left _ h)))))) ok_wsX6_within
set_option maxRecDepth 20000 in
theorem gX6_op_X6_within : GoodIn wsX6_op (va_wsS RX6 83 yX6_within wsX6_within) := goodIn_app (goodIn_of _ (by decide +kernel)) ggX6_op_X6_within
theorem ggX6_op_X6_fits : GoodIn wsX6_op wsX6_fits := goodIn_mem (fun _ h => List.mem_cons_of_mem _ (List.mem_append_left _ (List.mem_append_left _ (List.mem_append_right _ (List.mem_append_right _ (List.mem_append_right _ (List.mem_append_left _ h))))))) ok_wsX6_fits
set_option maxRecDepth 20000 in
theorem gX6_op_X6_fits : GoodIn wsX6_op (wsV RX6 102 RX6 yX6_fits wsX6_fits) := goodIn_app (goodIn_of _ (by decide +kernel)) ggX6_op_X6_fits
theorem ggX6_op_X6_buildOf : GoodIn wsX6_op wsX6_buildOf := goodIn_mem (fun _ h => List.mem_cons_of_mem _ (List.mem_append_left _ (List.mem_append_left _ (List.mem_append_right _ (List.mem_append_right _ (List.mem_append_right _ (List.mem_append_right _ (List.mem_append_left _ h)))))))) ok_wsX6_buildOf
set_option maxRecDepth 20000 in
theorem gX6_op_X6_buildOf : GoodIn wsX6_op (wsV RX6 87 RX6 yX6_buildOf wsX6_buildOf) := goodIn_app (goodIn_of _ (by decide +kernel)) ggX6_op_X6_buildOf
theorem ggX6_op_X0_addOp : GoodIn wsX6_op wsX0_addOp := goodIn_mem (fun _ h => List.mem_cons_of_mem _ (List.mem_append_left _ (List.mem_append_left _ (List.mem_append_right _ (List.mem_append_right _ (List.mem_append_right _ (List.mem_append_right _ (List.mem_append_right _ h)))))))) ok_wsX0_addOp
set_option maxRecDepth 20000 in
theorem gX6_op_X0_addOp : GoodIn wsX6_op (wsV RX6 109 RX0 yX0_addOp wsX0_addOp) := goodIn_app (goodIn_of _ (by decide +kernel)) ggX6_op_X0_addOp
theorem dX6_op_0 : decode cX6_op 0 = .ok (.aload_n 0, 1) := by decide +kernel
theorem dX6_op_1 : decode cX6_op 1 = .ok (.iload_n 1, 1) := by decide +kernel
theorem dX6_op_2 : decode cX6_op 2 = .ok (.iload_n 2, 1) := by decide +kernel
theorem dX6_op_3 : decode cX6_op 3 = .ok (.invokevirtual 98, 3) := by decide +kernel
theorem dX6_op_6 : decode cX6_op 6 = .ok (.ifCond .ne 6, 3) := by decide +kernel
theorem dX6_op_9 : decode cX6_op 9 = .ok (.bipush (-101), 2) := by decide +kernel
theorem dX6_op_11 : decode cX6_op 11 = .ok (.ireturn, 1) := by decide +kernel
theorem dX6_op_12 : decode cX6_op 12 = .ok (.iload_n 3, 1) := by decide +kernel
theorem dX6_op_13 : decode cX6_op 13 = .ok (.iconst 0, 1) := by decide +kernel
theorem dX6_op_14 : decode cX6_op 14 = .ok (.bipush 15, 2) := by decide +kernel
theorem dX6_op_16 : decode cX6_op 16 = .ok (.invokestatic 83, 3) := by decide +kernel
theorem dX6_op_19 : decode cX6_op 19 = .ok (.ifCond .eq 36, 3) := by decide +kernel
theorem dX6_op_22 : decode cX6_op 22 = .ok (.aload_n 0, 1) := by decide +kernel
theorem dX6_op_23 : decode cX6_op 23 = .ok (.iload_n 3, 1) := by decide +kernel
theorem dX6_op_24 : decode cX6_op 24 = .ok (.iconst 0, 1) := by decide +kernel
theorem dX6_op_25 : decode cX6_op 25 = .ok (.iload 4, 2) := by decide +kernel
theorem dX6_op_27 : decode cX6_op 27 = .ok (.invokevirtual 102, 3) := by decide +kernel
theorem dX6_op_30 : decode cX6_op 30 = .ok (.ifCond .eq 25, 3) := by decide +kernel
theorem dX6_op_33 : decode cX6_op 33 = .ok (.aload_n 0, 1) := by decide +kernel
theorem dX6_op_34 : decode cX6_op 34 = .ok (.iload_n 3, 1) := by decide +kernel
theorem dX6_op_35 : decode cX6_op 35 = .ok (.iconst 1, 1) := by decide +kernel
theorem dX6_op_36 : decode cX6_op 36 = .ok (.iload 5, 2) := by decide +kernel
theorem dX6_op_38 : decode cX6_op 38 = .ok (.invokevirtual 102, 3) := by decide +kernel
theorem dX6_op_41 : decode cX6_op 41 = .ok (.ifCond .eq 14, 3) := by decide +kernel
theorem dX6_op_44 : decode cX6_op 44 = .ok (.aload_n 0, 1) := by decide +kernel
theorem dX6_op_45 : decode cX6_op 45 = .ok (.iload_n 3, 1) := by decide +kernel
theorem dX6_op_46 : decode cX6_op 46 = .ok (.iconst 2, 1) := by decide +kernel
theorem dX6_op_47 : decode cX6_op 47 = .ok (.iload 6, 2) := by decide +kernel
theorem dX6_op_49 : decode cX6_op 49 = .ok (.invokevirtual 102, 3) := by decide +kernel
theorem dX6_op_52 : decode cX6_op 52 = .ok (.ifCond .ne 6, 3) := by decide +kernel
theorem dX6_op_55 : decode cX6_op 55 = .ok (.bipush (-102), 2) := by decide +kernel
theorem dX6_op_57 : decode cX6_op 57 = .ok (.ireturn, 1) := by decide +kernel
theorem dX6_op_58 : decode cX6_op 58 = .ok (.aload_n 0, 1) := by decide +kernel
theorem dX6_op_59 : decode cX6_op 59 = .ok (.iload_n 1, 1) := by decide +kernel
theorem dX6_op_60 : decode cX6_op 60 = .ok (.invokevirtual 87, 3) := by decide +kernel
theorem dX6_op_63 : decode cX6_op 63 = .ok (.astore 7, 2) := by decide +kernel
theorem dX6_op_65 : decode cX6_op 65 = .ok (.aload 7, 2) := by decide +kernel
theorem dX6_op_67 : decode cX6_op 67 = .ok (.getfield 105, 3) := by decide +kernel
theorem dX6_op_70 : decode cX6_op 70 = .ok (.iload_n 2, 1) := by decide +kernel
theorem dX6_op_71 : decode cX6_op 71 = .ok (.iaload, 1) := by decide +kernel
theorem dX6_op_72 : decode cX6_op 72 = .ok (.bipush 24, 2) := by decide +kernel
theorem dX6_op_74 : decode cX6_op 74 = .ok (.if_icmp .ne 8, 3) := by decide +kernel
theorem dX6_op_77 : decode cX6_op 77 = .ok (.bipush (-104), 2) := by decide +kernel
theorem dX6_op_79 : decode cX6_op 79 = .ok (.goto 16, 3) := by decide +kernel
theorem dX6_op_82 : decode cX6_op 82 = .ok (.aload 7, 2) := by decide +kernel
theorem dX6_op_84 : decode cX6_op 84 = .ok (.iload_n 2, 1) := by decide +kernel
theorem dX6_op_85 : decode cX6_op 85 = .ok (.iload_n 3, 1) := by decide +kernel
theorem dX6_op_86 : decode cX6_op 86 = .ok (.iload 4, 2) := by decide +kernel
theorem dX6_op_88 : decode cX6_op 88 = .ok (.iload 5, 2) := by decide +kernel
theorem dX6_op_90 : decode cX6_op 90 = .ok (.iload 6, 2) := by decide +kernel
theorem dX6_op_92 : decode cX6_op 92 = .ok (.invokevirtual 109, 3) := by decide +kernel
theorem dX6_op_95 : decode cX6_op 95 = .ok (.ireturn, 1) := by decide +kernel
theorem ggX6_clear_X6_isMethod : GoodIn wsX6_clear wsX6_isMethod := goodIn_mem (fun _ h => List.mem_cons_of_mem _ (List.mem_append_left _ (List.mem_append_left _ (List.mem_append_right _ (List.mem_append_left _ h))))) ok_wsX6_isMethod
set_option maxRecDepth 20000 in
theorem gX6_clear_X6_isMethod : GoodIn wsX6_clear (wsV RX6 98 RX6 yX6_isMethod wsX6_isMethod) := goodIn_app (goodIn_of _ (by decide +kernel)) ggX6_clear_X6_isMethod
theorem ggX6_clear_X6_buildOf : GoodIn wsX6_clear wsX6_buildOf := goodIn_mem (fun _ h => List.mem_cons_of_mem _ (List.mem_append_left _ (List.mem_append_left _ (List.mem_append_right _ (List.mem_append_right _ (List.mem_append_left _ h)))))) ok_wsX6_buildOf
set_option maxRecDepth 20000 in
theorem gX6_clear_X6_buildOf : GoodIn wsX6_clear (wsV RX6 87 RX6 yX6_buildOf wsX6_buildOf) := goodIn_app (goodIn_of _ (by decide +kernel)) ggX6_clear_X6_buildOf
theorem ggX6_clear_X0_removeOps : GoodIn wsX6_clear wsX0_removeOps := goodIn_mem (fun _ h => List.mem_cons_of_mem _ (List.mem_append_left _ (List.mem_append_left _ (List.mem_append_right _ (List.mem_append_right _ (List.mem_append_right _ h)))))) ok_wsX0_removeOps
set_option maxRecDepth 20000 in
theorem gX6_clear_X0_removeOps : GoodIn wsX6_clear (wsV RX6 113 RX0 yX0_removeOps wsX0_removeOps) := goodIn_app (goodIn_of _ (by decide +kernel)) ggX6_clear_X0_removeOps
theorem dX6_clear_0 : decode cX6_clear 0 = .ok (.aload_n 0, 1) := by decide +kernel
theorem dX6_clear_1 : decode cX6_clear 1 = .ok (.iload_n 1, 1) := by decide +kernel
theorem dX6_clear_2 : decode cX6_clear 2 = .ok (.iload_n 2, 1) := by decide +kernel
theorem dX6_clear_3 : decode cX6_clear 3 = .ok (.invokevirtual 98, 3) := by decide +kernel
theorem dX6_clear_6 : decode cX6_clear 6 = .ok (.ifCond .eq 15, 3) := by decide +kernel
theorem dX6_clear_9 : decode cX6_clear 9 = .ok (.aload_n 0, 1) := by decide +kernel
theorem dX6_clear_10 : decode cX6_clear 10 = .ok (.iload_n 1, 1) := by decide +kernel
theorem dX6_clear_11 : decode cX6_clear 11 = .ok (.invokevirtual 87, 3) := by decide +kernel
theorem dX6_clear_14 : decode cX6_clear 14 = .ok (.iload_n 2, 1) := by decide +kernel
theorem dX6_clear_15 : decode cX6_clear 15 = .ok (.invokevirtual 113, 3) := by decide +kernel
theorem dX6_clear_18 : decode cX6_clear 18 = .ok (.goto 5, 3) := by decide +kernel
theorem dX6_clear_21 : decode cX6_clear 21 = .ok (.bipush (-101), 2) := by decide +kernel
theorem dX6_clear_23 : decode cX6_clear 23 = .ok (.ireturn, 1) := by decide +kernel
theorem ggX6_run_X6_isMethod : GoodIn wsX6_run wsX6_isMethod := goodIn_mem (fun _ h => List.mem_cons_of_mem _ (List.mem_append_left _ (List.mem_append_left _ (List.mem_append_left _ (List.mem_append_left _ (List.mem_append_right _ (List.mem_append_left _ h))))))) ok_wsX6_isMethod
set_option maxRecDepth 20000 in
theorem gX6_run_X6_isMethod : GoodIn wsX6_run (wsV RX6 98 RX6 yX6_isMethod wsX6_isMethod) := goodIn_app (goodIn_of _ (by decide +kernel)) ggX6_run_X6_isMethod
theorem ggX6_run_X6_within : GoodIn wsX6_run wsX6_within := goodIn_mem (fun _ h => List.mem_cons_of_mem _ (List.mem_append_left _ (List.mem_append_left _ (List.mem_append_left _ (List.mem_append_left _ (List.mem_append_right _ (List.mem_append_right _ (List.mem_append_left _ h)))))))) ok_wsX6_within
set_option maxRecDepth 20000 in
theorem gX6_run_X6_within : GoodIn wsX6_run (va_wsS RX6 83 yX6_within wsX6_within) := goodIn_app (goodIn_of _ (by decide +kernel)) ggX6_run_X6_within
theorem ggX6_run_X6_buildOf : GoodIn wsX6_run wsX6_buildOf := goodIn_mem (fun _ h => List.mem_cons_of_mem _ (List.mem_append_left _ (List.mem_append_left _ (List.mem_append_left _ (List.mem_append_left _ (List.mem_append_right _ (List.mem_append_right _ (List.mem_append_right _ (List.mem_append_left _ h))))))))) ok_wsX6_buildOf
set_option maxRecDepth 20000 in
theorem gX6_run_X6_buildOf : GoodIn wsX6_run (wsV RX6 87 RX6 yX6_buildOf wsX6_buildOf) := goodIn_app (goodIn_of _ (by decide +kernel)) ggX6_run_X6_buildOf
theorem ggX6_run_X1_turnTo : GoodIn wsX6_run wsX1_turnTo := goodIn_mem (fun _ h => List.mem_cons_of_mem _ (List.mem_append_left _ (List.mem_append_left _ (List.mem_append_left _ (List.mem_append_left _ (List.mem_append_right _ (List.mem_append_right _ (List.mem_append_right _ (List.mem_append_right _ (List.mem_append_left _ h)))))))))) ok_wsX1_turnTo
set_option maxRecDepth 20000 in
theorem gX6_run_X1_turnTo : GoodIn wsX6_run (wsV RX6 117 RX1 yX1_turnTo wsX1_turnTo) := goodIn_app (goodIn_of _ (by decide +kernel)) ggX6_run_X1_turnTo
theorem ggX6_run_X1_go : GoodIn wsX6_run wsX1_go := goodIn_mem (fun _ h => List.mem_cons_of_mem _ (List.mem_append_left _ (List.mem_append_left _ (List.mem_append_left _ (List.mem_append_left _ (List.mem_append_right _ (List.mem_append_right _ (List.mem_append_right _ (List.mem_append_right _ (List.mem_append_right _ h)))))))))) ok_wsX1_go
set_option maxRecDepth 20000 in
theorem gX6_run_X1_go : GoodIn wsX6_run (wsV RX6 121 RX1 yX1_go wsX1_go) := goodIn_app (goodIn_of _ (by decide +kernel)) ggX6_run_X1_go
theorem dX6_run_0 : decode cX6_run 0 = .ok (.aload_n 0, 1) := by decide +kernel
theorem dX6_run_1 : decode cX6_run 1 = .ok (.iload_n 1, 1) := by decide +kernel
theorem dX6_run_2 : decode cX6_run 2 = .ok (.iload_n 2, 1) := by decide +kernel
theorem dX6_run_3 : decode cX6_run 3 = .ok (.invokevirtual 98, 3) := by decide +kernel
theorem dX6_run_6 : decode cX6_run 6 = .ok (.ifCond .ne 6, 3) := by decide +kernel
theorem dX6_run_9 : decode cX6_run 9 = .ok (.bipush (-101), 2) := by decide +kernel
theorem dX6_run_11 : decode cX6_run 11 = .ok (.ireturn, 1) := by decide +kernel
theorem dX6_run_12 : decode cX6_run 12 = .ok (.iload_n 3, 1) := by decide +kernel
theorem dX6_run_13 : decode cX6_run 13 = .ok (.iconst 0, 1) := by decide +kernel
theorem dX6_run_14 : decode cX6_run 14 = .ok (.aload_n 0, 1) := by decide +kernel
theorem dX6_run_15 : decode cX6_run 15 = .ok (.getfield 59, 3) := by decide +kernel
theorem dX6_run_18 : decode cX6_run 18 = .ok (.invokestatic 83, 3) := by decide +kernel
theorem dX6_run_21 : decode cX6_run 21 = .ok (.ifCond .eq 16, 3) := by decide +kernel
theorem dX6_run_24 : decode cX6_run 24 = .ok (.iload 4, 2) := by decide +kernel
theorem dX6_run_26 : decode cX6_run 26 = .ok (.iconst 0, 1) := by decide +kernel
theorem dX6_run_27 : decode cX6_run 27 = .ok (.aload_n 0, 1) := by decide +kernel
theorem dX6_run_28 : decode cX6_run 28 = .ok (.getfield 59, 3) := by decide +kernel
theorem dX6_run_31 : decode cX6_run 31 = .ok (.invokestatic 83, 3) := by decide +kernel
theorem dX6_run_34 : decode cX6_run 34 = .ok (.ifCond .ne 6, 3) := by decide +kernel
theorem dX6_run_37 : decode cX6_run 37 = .ok (.bipush (-102), 2) := by decide +kernel
theorem dX6_run_39 : decode cX6_run 39 = .ok (.ireturn, 1) := by decide +kernel
theorem dX6_run_40 : decode cX6_run 40 = .ok (.aload_n 0, 1) := by decide +kernel
theorem dX6_run_41 : decode cX6_run 41 = .ok (.getfield 67, 3) := by decide +kernel
theorem dX6_run_44 : decode cX6_run 44 = .ok (.aload_n 0, 1) := by decide +kernel
theorem dX6_run_45 : decode cX6_run 45 = .ok (.iload_n 1, 1) := by decide +kernel
theorem dX6_run_46 : decode cX6_run 46 = .ok (.invokevirtual 87, 3) := by decide +kernel
theorem dX6_run_49 : decode cX6_run 49 = .ok (.invokevirtual 117, 3) := by decide +kernel
theorem dX6_run_52 : decode cX6_run 52 = .ok (.aload_n 0, 1) := by decide +kernel
theorem dX6_run_53 : decode cX6_run 53 = .ok (.getfield 67, 3) := by decide +kernel
theorem dX6_run_56 : decode cX6_run 56 = .ok (.iload_n 2, 1) := by decide +kernel
theorem dX6_run_57 : decode cX6_run 57 = .ok (.iload_n 3, 1) := by decide +kernel
theorem dX6_run_58 : decode cX6_run 58 = .ok (.iload 4, 2) := by decide +kernel
theorem dX6_run_60 : decode cX6_run 60 = .ok (.invokevirtual 121, 3) := by decide +kernel
theorem dX6_run_63 : decode cX6_run 63 = .ok (.aload_n 0, 1) := by decide +kernel
theorem dX6_run_64 : decode cX6_run 64 = .ok (.getfield 67, 3) := by decide +kernel
theorem dX6_run_67 : decode cX6_run 67 = .ok (.getfield 125, 3) := by decide +kernel
theorem dX6_run_70 : decode cX6_run 70 = .ok (.getfield 129, 3) := by decide +kernel
theorem dX6_run_73 : decode cX6_run 73 = .ok (.ireturn, 1) := by decide +kernel
theorem dX6_ran_0 : decode cX6_ran 0 = .ok (.aload_n 0, 1) := by decide +kernel
theorem dX6_ran_1 : decode cX6_ran 1 = .ok (.getfield 67, 3) := by decide +kernel
theorem dX6_ran_4 : decode cX6_ran 4 = .ok (.getfield 125, 3) := by decide +kernel
theorem dX6_ran_7 : decode cX6_ran 7 = .ok (.astore_n 2, 1) := by decide +kernel
theorem dX6_ran_8 : decode cX6_ran 8 = .ok (.iload_n 1, 1) := by decide +kernel
theorem dX6_ran_9 : decode cX6_ran 9 = .ok (.tableswitch 60 0 4 #[35, 40, 45, 50, 55], 35) := by decide +kernel
theorem dX6_ran_44 : decode cX6_ran 44 = .ok (.aload_n 2, 1) := by decide +kernel
theorem dX6_ran_45 : decode cX6_ran 45 = .ok (.getfield 134, 3) := by decide +kernel
theorem dX6_ran_48 : decode cX6_ran 48 = .ok (.ireturn, 1) := by decide +kernel
theorem dX6_ran_49 : decode cX6_ran 49 = .ok (.aload_n 2, 1) := by decide +kernel
theorem dX6_ran_50 : decode cX6_ran 50 = .ok (.getfield 137, 3) := by decide +kernel
theorem dX6_ran_53 : decode cX6_ran 53 = .ok (.ireturn, 1) := by decide +kernel
theorem dX6_ran_54 : decode cX6_ran 54 = .ok (.aload_n 2, 1) := by decide +kernel
theorem dX6_ran_55 : decode cX6_ran 55 = .ok (.getfield 140, 3) := by decide +kernel
theorem dX6_ran_58 : decode cX6_ran 58 = .ok (.ireturn, 1) := by decide +kernel
theorem dX6_ran_59 : decode cX6_ran 59 = .ok (.aload_n 2, 1) := by decide +kernel
theorem dX6_ran_60 : decode cX6_ran 60 = .ok (.getfield 143, 3) := by decide +kernel
theorem dX6_ran_63 : decode cX6_ran 63 = .ok (.ireturn, 1) := by decide +kernel
theorem dX6_ran_64 : decode cX6_ran 64 = .ok (.aload_n 2, 1) := by decide +kernel
theorem dX6_ran_65 : decode cX6_ran 65 = .ok (.getfield 146, 3) := by decide +kernel
theorem dX6_ran_68 : decode cX6_ran 68 = .ok (.ireturn, 1) := by decide +kernel
theorem dX6_ran_69 : decode cX6_ran 69 = .ok (.bipush (-101), 2) := by decide +kernel
theorem dX6_ran_71 : decode cX6_ran 71 = .ok (.ireturn, 1) := by decide +kernel
theorem ggX6_told_X6_within : GoodIn wsX6_told wsX6_within := goodIn_mem (fun _ h => List.mem_cons_of_mem _ (List.mem_append_left _ (List.mem_append_left _ (List.mem_append_left _ (List.mem_append_right _ h))))) ok_wsX6_within
set_option maxRecDepth 20000 in
theorem gX6_told_X6_within : GoodIn wsX6_told (va_wsS RX6 83 yX6_within wsX6_within) := goodIn_app (goodIn_of _ (by decide +kernel)) ggX6_told_X6_within
theorem dX6_told_0 : decode cX6_told 0 = .ok (.iload_n 2, 1) := by decide +kernel
theorem dX6_told_1 : decode cX6_told 1 = .ok (.iconst 0, 1) := by decide +kernel
theorem dX6_told_2 : decode cX6_told 2 = .ok (.iconst 1, 1) := by decide +kernel
theorem dX6_told_3 : decode cX6_told 3 = .ok (.invokestatic 83, 3) := by decide +kernel
theorem dX6_told_6 : decode cX6_told 6 = .ok (.ifCond .ne 6, 3) := by decide +kernel
theorem dX6_told_9 : decode cX6_told 9 = .ok (.bipush (-101), 2) := by decide +kernel
theorem dX6_told_11 : decode cX6_told 11 = .ok (.ireturn, 1) := by decide +kernel
theorem dX6_told_12 : decode cX6_told 12 = .ok (.aload_n 0, 1) := by decide +kernel
theorem dX6_told_13 : decode cX6_told 13 = .ok (.getfield 67, 3) := by decide +kernel
theorem dX6_told_16 : decode cX6_told 16 = .ok (.getfield 125, 3) := by decide +kernel
theorem dX6_told_19 : decode cX6_told 19 = .ok (.astore_n 3, 1) := by decide +kernel
theorem dX6_told_20 : decode cX6_told 20 = .ok (.iload_n 1, 1) := by decide +kernel
theorem dX6_told_21 : decode cX6_told 21 = .ok (.iconst 0, 1) := by decide +kernel
theorem dX6_told_22 : decode cX6_told 22 = .ok (.aload_n 3, 1) := by decide +kernel
theorem dX6_told_23 : decode cX6_told 23 = .ok (.getfield 143, 3) := by decide +kernel
theorem dX6_told_26 : decode cX6_told 26 = .ok (.iconst 1, 1) := by decide +kernel
theorem dX6_told_27 : decode cX6_told 27 = .ok (.isub, 1) := by decide +kernel
theorem dX6_told_28 : decode cX6_told 28 = .ok (.invokestatic 83, 3) := by decide +kernel
theorem dX6_told_31 : decode cX6_told 31 = .ok (.ifCond .ne 5, 3) := by decide +kernel
theorem dX6_told_34 : decode cX6_told 34 = .ok (.iconst (-1), 1) := by decide +kernel
theorem dX6_told_35 : decode cX6_told 35 = .ok (.ireturn, 1) := by decide +kernel
theorem dX6_told_36 : decode cX6_told 36 = .ok (.iload_n 2, 1) := by decide +kernel
theorem dX6_told_37 : decode cX6_told 37 = .ok (.ifCond .ne 12, 3) := by decide +kernel
theorem dX6_told_40 : decode cX6_told 40 = .ok (.aload_n 3, 1) := by decide +kernel
theorem dX6_told_41 : decode cX6_told 41 = .ok (.getfield 149, 3) := by decide +kernel
theorem dX6_told_44 : decode cX6_told 44 = .ok (.iload_n 1, 1) := by decide +kernel
theorem dX6_told_45 : decode cX6_told 45 = .ok (.iaload, 1) := by decide +kernel
theorem dX6_told_46 : decode cX6_told 46 = .ok (.goto 9, 3) := by decide +kernel
theorem dX6_told_49 : decode cX6_told 49 = .ok (.aload_n 3, 1) := by decide +kernel
theorem dX6_told_50 : decode cX6_told 50 = .ok (.getfield 152, 3) := by decide +kernel
theorem dX6_told_53 : decode cX6_told 53 = .ok (.iload_n 1, 1) := by decide +kernel
theorem dX6_told_54 : decode cX6_told 54 = .ok (.iaload, 1) := by decide +kernel
theorem dX6_told_55 : decode cX6_told 55 = .ok (.ireturn, 1) := by decide +kernel
theorem ggX6_rename_X6_isPort : GoodIn wsX6_rename wsX6_isPort := goodIn_mem (fun _ h => List.mem_cons_of_mem _ (List.mem_append_left _ (List.mem_append_left _ (List.mem_append_right _ (List.mem_append_left _ h))))) ok_wsX6_isPort
set_option maxRecDepth 20000 in
theorem gX6_rename_X6_isPort : GoodIn wsX6_rename (va_wsS RX6 155 yX6_isPort wsX6_isPort) := goodIn_app (goodIn_of _ (by decide +kernel)) ggX6_rename_X6_isPort
theorem ggX6_rename_X3_swapIn : GoodIn wsX6_rename wsX3_swapIn := goodIn_mem (fun _ h => List.mem_cons_of_mem _ (List.mem_append_left _ (List.mem_append_left _ (List.mem_append_right _ (List.mem_append_right _ h))))) ok_wsX3_swapIn
set_option maxRecDepth 20000 in
theorem gX6_rename_X3_swapIn : GoodIn wsX6_rename (wsV RX6 159 RX3 yX3_swapIn wsX3_swapIn) := goodIn_app (goodIn_of _ (by decide +kernel)) ggX6_rename_X3_swapIn
theorem dX6_rename_0 : decode cX6_rename 0 = .ok (.iload_n 1, 1) := by decide +kernel
theorem dX6_rename_1 : decode cX6_rename 1 = .ok (.invokestatic 155, 3) := by decide +kernel
theorem dX6_rename_4 : decode cX6_rename 4 = .ok (.ifCond .eq 10, 3) := by decide +kernel
theorem dX6_rename_7 : decode cX6_rename 7 = .ok (.iload_n 2, 1) := by decide +kernel
theorem dX6_rename_8 : decode cX6_rename 8 = .ok (.invokestatic 155, 3) := by decide +kernel
theorem dX6_rename_11 : decode cX6_rename 11 = .ok (.ifCond .ne 6, 3) := by decide +kernel
theorem dX6_rename_14 : decode cX6_rename 14 = .ok (.bipush (-101), 2) := by decide +kernel
theorem dX6_rename_16 : decode cX6_rename 16 = .ok (.ireturn, 1) := by decide +kernel
theorem dX6_rename_17 : decode cX6_rename 17 = .ok (.aload_n 0, 1) := by decide +kernel
theorem dX6_rename_18 : decode cX6_rename 18 = .ok (.getfield 22, 3) := by decide +kernel
theorem dX6_rename_21 : decode cX6_rename 21 = .ok (.iload_n 1, 1) := by decide +kernel
theorem dX6_rename_22 : decode cX6_rename 22 = .ok (.iload_n 2, 1) := by decide +kernel
theorem dX6_rename_23 : decode cX6_rename 23 = .ok (.invokevirtual 159, 3) := by decide +kernel
theorem dX6_rename_26 : decode cX6_rename 26 = .ok (.ireturn, 1) := by decide +kernel
theorem ggX6_group_X6_isPort : GoodIn wsX6_group wsX6_isPort := goodIn_mem (fun _ h => List.mem_cons_of_mem _ (List.mem_append_left _ (List.mem_append_left _ (List.mem_append_right _ (List.mem_append_left _ h))))) ok_wsX6_isPort
set_option maxRecDepth 20000 in
theorem gX6_group_X6_isPort : GoodIn wsX6_group (va_wsS RX6 155 yX6_isPort wsX6_isPort) := goodIn_app (goodIn_of _ (by decide +kernel)) ggX6_group_X6_isPort
theorem ggX6_group_X6_within : GoodIn wsX6_group wsX6_within := goodIn_mem (fun _ h => List.mem_cons_of_mem _ (List.mem_append_left _ (List.mem_append_left _ (List.mem_append_right _ (List.mem_append_right _ h))))) ok_wsX6_within
set_option maxRecDepth 20000 in
theorem gX6_group_X6_within : GoodIn wsX6_group (va_wsS RX6 83 yX6_within wsX6_within) := goodIn_app (goodIn_of _ (by decide +kernel)) ggX6_group_X6_within
theorem dX6_group_0 : decode cX6_group 0 = .ok (.iload_n 1, 1) := by decide +kernel
theorem dX6_group_1 : decode cX6_group 1 = .ok (.invokestatic 155, 3) := by decide +kernel
theorem dX6_group_4 : decode cX6_group 4 = .ok (.ifCond .ne 6, 3) := by decide +kernel
theorem dX6_group_7 : decode cX6_group 7 = .ok (.bipush (-101), 2) := by decide +kernel
theorem dX6_group_9 : decode cX6_group 9 = .ok (.ireturn, 1) := by decide +kernel
theorem dX6_group_10 : decode cX6_group 10 = .ok (.iload_n 2, 1) := by decide +kernel
theorem dX6_group_11 : decode cX6_group 11 = .ok (.iconst 0, 1) := by decide +kernel
theorem dX6_group_12 : decode cX6_group 12 = .ok (.iconst 3, 1) := by decide +kernel
theorem dX6_group_13 : decode cX6_group 13 = .ok (.invokestatic 83, 3) := by decide +kernel
theorem dX6_group_16 : decode cX6_group 16 = .ok (.ifCond .ne 6, 3) := by decide +kernel
theorem dX6_group_19 : decode cX6_group 19 = .ok (.bipush (-102), 2) := by decide +kernel
theorem dX6_group_21 : decode cX6_group 21 = .ok (.ireturn, 1) := by decide +kernel
theorem dX6_group_22 : decode cX6_group 22 = .ok (.aload_n 0, 1) := by decide +kernel
theorem dX6_group_23 : decode cX6_group 23 = .ok (.getfield 22, 3) := by decide +kernel
theorem dX6_group_26 : decode cX6_group 26 = .ok (.getfield 163, 3) := by decide +kernel
theorem dX6_group_29 : decode cX6_group 29 = .ok (.iload_n 1, 1) := by decide +kernel
theorem dX6_group_30 : decode cX6_group 30 = .ok (.iaload, 1) := by decide +kernel
theorem dX6_group_31 : decode cX6_group 31 = .ok (.istore_n 3, 1) := by decide +kernel
theorem dX6_group_32 : decode cX6_group 32 = .ok (.aload_n 0, 1) := by decide +kernel
theorem dX6_group_33 : decode cX6_group 33 = .ok (.getfield 22, 3) := by decide +kernel
theorem dX6_group_36 : decode cX6_group 36 = .ok (.getfield 163, 3) := by decide +kernel
theorem dX6_group_39 : decode cX6_group 39 = .ok (.iload_n 1, 1) := by decide +kernel
theorem dX6_group_40 : decode cX6_group 40 = .ok (.iload_n 2, 1) := by decide +kernel
theorem dX6_group_41 : decode cX6_group 41 = .ok (.iastore, 1) := by decide +kernel
theorem dX6_group_42 : decode cX6_group 42 = .ok (.iload_n 3, 1) := by decide +kernel
theorem dX6_group_43 : decode cX6_group 43 = .ok (.ireturn, 1) := by decide +kernel
theorem ggX6_hold_X6_isPair : GoodIn wsX6_hold wsX6_isPair := goodIn_mem (fun _ h => List.mem_cons_of_mem _ (List.mem_append_left _ (List.mem_append_left _ (List.mem_append_left _ (List.mem_append_left _ (List.mem_append_left _ (List.mem_append_right _ (List.mem_append_left _ h)))))))) ok_wsX6_isPair
set_option maxRecDepth 20000 in
theorem gX6_hold_X6_isPair : GoodIn wsX6_hold (wsV RX6 166 RX6 yX6_isPair wsX6_isPair) := goodIn_app (goodIn_of _ (by decide +kernel)) ggX6_hold_X6_isPair
theorem ggX6_hold_X6_held : GoodIn wsX6_hold wsX6_held := goodIn_mem (fun _ h => List.mem_cons_of_mem _ (List.mem_append_left _ (List.mem_append_left _ (List.mem_append_left _ (List.mem_append_left _ (List.mem_append_left _ (List.mem_append_right _ (List.mem_append_right _ h)))))))) ok_wsX6_held
set_option maxRecDepth 20000 in
theorem gX6_hold_X6_held : GoodIn wsX6_hold (wsV RX6 169 RX6 yX6_held wsX6_held) := goodIn_app (goodIn_of _ (by decide +kernel)) ggX6_hold_X6_held
theorem dX6_hold_0 : decode cX6_hold 0 = .ok (.aload_n 0, 1) := by decide +kernel
theorem dX6_hold_1 : decode cX6_hold 1 = .ok (.iload_n 1, 1) := by decide +kernel
theorem dX6_hold_2 : decode cX6_hold 2 = .ok (.iload_n 2, 1) := by decide +kernel
theorem dX6_hold_3 : decode cX6_hold 3 = .ok (.invokevirtual 166, 3) := by decide +kernel
theorem dX6_hold_6 : decode cX6_hold 6 = .ok (.ifCond .ne 6, 3) := by decide +kernel
theorem dX6_hold_9 : decode cX6_hold 9 = .ok (.bipush (-101), 2) := by decide +kernel
theorem dX6_hold_11 : decode cX6_hold 11 = .ok (.ireturn, 1) := by decide +kernel
theorem dX6_hold_12 : decode cX6_hold 12 = .ok (.aload_n 0, 1) := by decide +kernel
theorem dX6_hold_13 : decode cX6_hold 13 = .ok (.iload_n 1, 1) := by decide +kernel
theorem dX6_hold_14 : decode cX6_hold 14 = .ok (.iload_n 2, 1) := by decide +kernel
theorem dX6_hold_15 : decode cX6_hold 15 = .ok (.invokevirtual 169, 3) := by decide +kernel
theorem dX6_hold_18 : decode cX6_hold 18 = .ok (.istore_n 3, 1) := by decide +kernel
theorem dX6_hold_19 : decode cX6_hold 19 = .ok (.aload_n 0, 1) := by decide +kernel
theorem dX6_hold_20 : decode cX6_hold 20 = .ok (.iload_n 3, 1) := by decide +kernel
theorem dX6_hold_21 : decode cX6_hold 21 = .ok (.ifCond .ne 10, 3) := by decide +kernel
theorem dX6_hold_24 : decode cX6_hold 24 = .ok (.aload_n 0, 1) := by decide +kernel
theorem dX6_hold_25 : decode cX6_hold 25 = .ok (.getfield 43, 3) := by decide +kernel
theorem dX6_hold_28 : decode cX6_hold 28 = .ok (.goto 4, 3) := by decide +kernel
theorem dX6_hold_31 : decode cX6_hold 31 = .ok (.iconst (-1), 1) := by decide +kernel
theorem dX6_hold_32 : decode cX6_hold 32 = .ok (.putfield 50, 3) := by decide +kernel
theorem dX6_hold_35 : decode cX6_hold 35 = .ok (.aload_n 0, 1) := by decide +kernel
theorem dX6_hold_36 : decode cX6_hold 36 = .ok (.iload_n 3, 1) := by decide +kernel
theorem dX6_hold_37 : decode cX6_hold 37 = .ok (.ifCond .ne 10, 3) := by decide +kernel
theorem dX6_hold_40 : decode cX6_hold 40 = .ok (.aload_n 0, 1) := by decide +kernel
theorem dX6_hold_41 : decode cX6_hold 41 = .ok (.getfield 47, 3) := by decide +kernel
theorem dX6_hold_44 : decode cX6_hold 44 = .ok (.goto 4, 3) := by decide +kernel
theorem dX6_hold_47 : decode cX6_hold 47 = .ok (.iconst (-1), 1) := by decide +kernel
theorem dX6_hold_48 : decode cX6_hold 48 = .ok (.putfield 53, 3) := by decide +kernel
theorem dX6_hold_51 : decode cX6_hold 51 = .ok (.iload_n 3, 1) := by decide +kernel
theorem dX6_hold_52 : decode cX6_hold 52 = .ok (.ireturn, 1) := by decide +kernel
theorem dX6_first_0 : decode cX6_first 0 = .ok (.iload_n 1, 1) := by decide +kernel
theorem dX6_first_1 : decode cX6_first 1 = .ok (.lookupswitch 37 #[(0, 27), (1, 32)], 27) := by decide +kernel
theorem dX6_first_28 : decode cX6_first 28 = .ok (.aload_n 0, 1) := by decide +kernel
theorem dX6_first_29 : decode cX6_first 29 = .ok (.getfield 50, 3) := by decide +kernel
theorem dX6_first_32 : decode cX6_first 32 = .ok (.ireturn, 1) := by decide +kernel
theorem dX6_first_33 : decode cX6_first 33 = .ok (.aload_n 0, 1) := by decide +kernel
theorem dX6_first_34 : decode cX6_first 34 = .ok (.getfield 53, 3) := by decide +kernel
theorem dX6_first_37 : decode cX6_first 37 = .ok (.ireturn, 1) := by decide +kernel
theorem dX6_first_38 : decode cX6_first 38 = .ok (.bipush (-101), 2) := by decide +kernel
theorem dX6_first_40 : decode cX6_first 40 = .ok (.ireturn, 1) := by decide +kernel
theorem ggX6_match_X0_has : GoodIn wsX6_match wsX0_has := goodIn_mem (fun _ h => List.mem_cons_of_mem _ (List.mem_append_left _ (List.mem_append_left _ (List.mem_append_left _ (List.mem_append_left _ (List.mem_append_left _ (List.mem_append_right _ (List.mem_append_left _ h)))))))) ok_wsX0_has
set_option maxRecDepth 20000 in
theorem gX6_match_X0_has : GoodIn wsX6_match (wsV RX6 172 RX0 yX0_has wsX0_has) := goodIn_app (goodIn_of _ (by decide +kernel)) ggX6_match_X0_has
theorem ggX6_match_X6_held : GoodIn wsX6_match wsX6_held := goodIn_mem (fun _ h => List.mem_cons_of_mem _ (List.mem_append_left _ (List.mem_append_left _ (List.mem_append_left _ (List.mem_append_left _ (List.mem_append_left _ (List.mem_append_right _ (List.mem_append_right _ h)))))))) ok_wsX6_held
set_option maxRecDepth 20000 in
theorem gX6_match_X6_held : GoodIn wsX6_match (wsV RX6 169 RX6 yX6_held wsX6_held) := goodIn_app (goodIn_of _ (by decide +kernel)) ggX6_match_X6_held
theorem dX6_match_0 : decode cX6_match 0 = .ok (.aload_n 0, 1) := by decide +kernel
theorem dX6_match_1 : decode cX6_match 1 = .ok (.getfield 10, 3) := by decide +kernel
theorem dX6_match_4 : decode cX6_match 4 = .ok (.iload_n 1, 1) := by decide +kernel
theorem dX6_match_5 : decode cX6_match 5 = .ok (.invokevirtual 172, 3) := by decide +kernel
theorem dX6_match_8 : decode cX6_match 8 = .ok (.ifCond .ne 6, 3) := by decide +kernel
theorem dX6_match_11 : decode cX6_match 11 = .ok (.bipush (-101), 2) := by decide +kernel
theorem dX6_match_13 : decode cX6_match 13 = .ok (.ireturn, 1) := by decide +kernel
theorem dX6_match_14 : decode cX6_match 14 = .ok (.iconst 0, 1) := by decide +kernel
theorem dX6_match_15 : decode cX6_match 15 = .ok (.istore_n 2, 1) := by decide +kernel
theorem dX6_match_16 : decode cX6_match 16 = .ok (.iload_n 2, 1) := by decide +kernel
theorem dX6_match_17 : decode cX6_match 17 = .ok (.aload_n 0, 1) := by decide +kernel
theorem dX6_match_18 : decode cX6_match 18 = .ok (.getfield 16, 3) := by decide +kernel
theorem dX6_match_21 : decode cX6_match 21 = .ok (.getfield 91, 3) := by decide +kernel
theorem dX6_match_24 : decode cX6_match 24 = .ok (.if_icmp .ge 21, 3) := by decide +kernel
theorem dX6_match_27 : decode cX6_match 27 = .ok (.aload_n 0, 1) := by decide +kernel
theorem dX6_match_28 : decode cX6_match 28 = .ok (.iload_n 1, 1) := by decide +kernel
theorem dX6_match_29 : decode cX6_match 29 = .ok (.iload_n 2, 1) := by decide +kernel
theorem dX6_match_30 : decode cX6_match 30 = .ok (.invokevirtual 169, 3) := by decide +kernel
theorem dX6_match_33 : decode cX6_match 33 = .ok (.iconst 1, 1) := by decide +kernel
theorem dX6_match_34 : decode cX6_match 34 = .ok (.if_icmp .ne 5, 3) := by decide +kernel
theorem dX6_match_37 : decode cX6_match 37 = .ok (.iload_n 2, 1) := by decide +kernel
theorem dX6_match_38 : decode cX6_match 38 = .ok (.ireturn, 1) := by decide +kernel
theorem dX6_match_39 : decode cX6_match 39 = .ok (.iinc 2 1, 3) := by decide +kernel
theorem dX6_match_42 : decode cX6_match 42 = .ok (.goto (-26), 3) := by decide +kernel
theorem dX6_match_45 : decode cX6_match 45 = .ok (.iconst (-1), 1) := by decide +kernel
theorem dX6_match_46 : decode cX6_match 46 = .ok (.ireturn, 1) := by decide +kernel
theorem ggX6_find_X6_isPair : GoodIn wsX6_find wsX6_isPair := goodIn_mem (fun _ h => List.mem_cons_of_mem _ (List.mem_append_left _ (List.mem_append_left _ (List.mem_append_left _ (List.mem_append_left _ (List.mem_append_left _ (List.mem_append_right _ (List.mem_append_right _ (List.mem_append_left _ h))))))))) ok_wsX6_isPair
set_option maxRecDepth 20000 in
theorem gX6_find_X6_isPair : GoodIn wsX6_find (wsV RX6 166 RX6 yX6_isPair wsX6_isPair) := goodIn_app (goodIn_of _ (by decide +kernel)) ggX6_find_X6_isPair
theorem ggX6_find_X3_takeGroups : GoodIn wsX6_find wsX3_takeGroups := goodIn_mem (fun _ h => List.mem_cons_of_mem _ (List.mem_append_left _ (List.mem_append_left _ (List.mem_append_left _ (List.mem_append_left _ (List.mem_append_left _ (List.mem_append_right _ (List.mem_append_right _ (List.mem_append_right _ (List.mem_append_left _ h)))))))))) ok_wsX3_takeGroups
set_option maxRecDepth 20000 in
theorem gX6_find_X3_takeGroups : GoodIn wsX6_find (wsV RX6 175 RX3 yX3_takeGroups wsX3_takeGroups) := goodIn_app (goodIn_of _ (by decide +kernel)) ggX6_find_X3_takeGroups
theorem ggX6_find_X6_runBoth : GoodIn wsX6_find wsX6_runBoth := goodIn_mem (fun _ h => List.mem_cons_of_mem _ (List.mem_append_left _ (List.mem_append_left _ (List.mem_append_left _ (List.mem_append_left _ (List.mem_append_left _ (List.mem_append_right _ (List.mem_append_right _ (List.mem_append_right _ (List.mem_append_right _ (List.mem_append_left _ h))))))))))) ok_wsX6_runBoth
set_option maxRecDepth 20000 in
theorem gX6_find_X6_runBoth : GoodIn wsX6_find (wsV RX6 180 RX6 yX6_runBoth wsX6_runBoth) := goodIn_app (goodIn_of _ (by decide +kernel)) ggX6_find_X6_runBoth
theorem ggX6_find_X6_stillAlike : GoodIn wsX6_find wsX6_stillAlike := goodIn_mem (fun _ h => List.mem_cons_of_mem _ (List.mem_append_left _ (List.mem_append_left _ (List.mem_append_left _ (List.mem_append_left _ (List.mem_append_left _ (List.mem_append_right _ (List.mem_append_right _ (List.mem_append_right _ (List.mem_append_right _ (List.mem_append_right _ (List.mem_append_left _ h)))))))))))) ok_wsX6_stillAlike
set_option maxRecDepth 20000 in
theorem gX6_find_X6_stillAlike : GoodIn wsX6_find (wsV RX6 184 RX6 yX6_stillAlike wsX6_stillAlike) := goodIn_app (goodIn_of _ (by decide +kernel)) ggX6_find_X6_stillAlike
theorem ggX6_find_J6_numberOfTrailingZeros_0f7a4 : GoodIn wsX6_find wsJ6_numberOfTrailingZeros_0f7a4 := goodIn_mem (fun _ h => List.mem_cons_of_mem _ (List.mem_append_left _ (List.mem_append_left _ (List.mem_append_left _ (List.mem_append_left _ (List.mem_append_left _ (List.mem_append_right _ (List.mem_append_right _ (List.mem_append_right _ (List.mem_append_right _ (List.mem_append_right _ (List.mem_append_right _ h)))))))))))) ok_wsJ6_numberOfTrailingZeros_0f7a4
set_option maxRecDepth 20000 in
theorem gX6_find_J6_numberOfTrailingZeros_0f7a4 : GoodIn wsX6_find (va_wsS RX6 191 yJ6_numberOfTrailingZeros_0f7a4 wsJ6_numberOfTrailingZeros_0f7a4) := goodIn_app (goodIn_of _ (by decide +kernel)) ggX6_find_J6_numberOfTrailingZeros_0f7a4
theorem dX6_find_0 : decode cX6_find 0 = .ok (.aload_n 0, 1) := by decide +kernel
theorem dX6_find_1 : decode cX6_find 1 = .ok (.iload_n 1, 1) := by decide +kernel
theorem dX6_find_2 : decode cX6_find 2 = .ok (.iload_n 2, 1) := by decide +kernel
theorem dX6_find_3 : decode cX6_find 3 = .ok (.invokevirtual 166, 3) := by decide +kernel
theorem dX6_find_6 : decode cX6_find 6 = .ok (.ifCond .ne 6, 3) := by decide +kernel
theorem dX6_find_9 : decode cX6_find 9 = .ok (.bipush (-101), 2) := by decide +kernel
theorem dX6_find_11 : decode cX6_find 11 = .ok (.ireturn, 1) := by decide +kernel
theorem dX6_find_12 : decode cX6_find 12 = .ok (.aload_n 0, 1) := by decide +kernel
theorem dX6_find_13 : decode cX6_find 13 = .ok (.getfield 26, 3) := by decide +kernel
theorem dX6_find_16 : decode cX6_find 16 = .ok (.aload_n 0, 1) := by decide +kernel
theorem dX6_find_17 : decode cX6_find 17 = .ok (.getfield 22, 3) := by decide +kernel
theorem dX6_find_20 : decode cX6_find 20 = .ok (.invokevirtual 175, 3) := by decide +kernel
theorem dX6_find_23 : decode cX6_find 23 = .ok (.ldc 179, 2) := by decide +kernel
theorem dX6_find_25 : decode cX6_find 25 = .ok (.istore_n 3, 1) := by decide +kernel
theorem dX6_find_26 : decode cX6_find 26 = .ok (.iconst 0, 1) := by decide +kernel
theorem dX6_find_27 : decode cX6_find 27 = .ok (.istore 4, 2) := by decide +kernel
theorem dX6_find_29 : decode cX6_find 29 = .ok (.iload 4, 2) := by decide +kernel
theorem dX6_find_31 : decode cX6_find 31 = .ok (.aload_n 0, 1) := by decide +kernel
theorem dX6_find_32 : decode cX6_find 32 = .ok (.getfield 59, 3) := by decide +kernel
theorem dX6_find_35 : decode cX6_find 35 = .ok (.if_icmp .gt 47, 3) := by decide +kernel
theorem dX6_find_38 : decode cX6_find 38 = .ok (.iconst 0, 1) := by decide +kernel
theorem dX6_find_39 : decode cX6_find 39 = .ok (.istore 5, 2) := by decide +kernel
theorem dX6_find_41 : decode cX6_find 41 = .ok (.iload 5, 2) := by decide +kernel
theorem dX6_find_43 : decode cX6_find 43 = .ok (.aload_n 0, 1) := by decide +kernel
theorem dX6_find_44 : decode cX6_find 44 = .ok (.getfield 59, 3) := by decide +kernel
theorem dX6_find_47 : decode cX6_find 47 = .ok (.if_icmp .gt 29, 3) := by decide +kernel
theorem dX6_find_50 : decode cX6_find 50 = .ok (.iload_n 3, 1) := by decide +kernel
theorem dX6_find_51 : decode cX6_find 51 = .ok (.ifCond .eq 19, 3) := by decide +kernel
theorem dX6_find_54 : decode cX6_find 54 = .ok (.aload_n 0, 1) := by decide +kernel
theorem dX6_find_55 : decode cX6_find 55 = .ok (.iload_n 3, 1) := by decide +kernel
theorem dX6_find_56 : decode cX6_find 56 = .ok (.aload_n 0, 1) := by decide +kernel
theorem dX6_find_57 : decode cX6_find 57 = .ok (.iload_n 1, 1) := by decide +kernel
theorem dX6_find_58 : decode cX6_find 58 = .ok (.iload_n 2, 1) := by decide +kernel
theorem dX6_find_59 : decode cX6_find 59 = .ok (.iload 4, 2) := by decide +kernel
theorem dX6_find_61 : decode cX6_find 61 = .ok (.iload 5, 2) := by decide +kernel
theorem dX6_find_63 : decode cX6_find 63 = .ok (.invokevirtual 180, 3) := by decide +kernel
theorem dX6_find_66 : decode cX6_find 66 = .ok (.invokevirtual 184, 3) := by decide +kernel
theorem dX6_find_69 : decode cX6_find 69 = .ok (.istore_n 3, 1) := by decide +kernel
theorem dX6_find_70 : decode cX6_find 70 = .ok (.iinc 5 1, 3) := by decide +kernel
theorem dX6_find_73 : decode cX6_find 73 = .ok (.goto (-32), 3) := by decide +kernel
theorem dX6_find_76 : decode cX6_find 76 = .ok (.iinc 4 1, 3) := by decide +kernel
theorem dX6_find_79 : decode cX6_find 79 = .ok (.goto (-50), 3) := by decide +kernel
theorem dX6_find_82 : decode cX6_find 82 = .ok (.iload_n 3, 1) := by decide +kernel
theorem dX6_find_83 : decode cX6_find 83 = .ok (.ifCond .ne 7, 3) := by decide +kernel
theorem dX6_find_86 : decode cX6_find 86 = .ok (.iconst (-1), 1) := by decide +kernel
theorem dX6_find_87 : decode cX6_find 87 = .ok (.goto 11, 3) := by decide +kernel
theorem dX6_find_90 : decode cX6_find 90 = .ok (.getstatic 188, 3) := by decide +kernel
theorem dX6_find_93 : decode cX6_find 93 = .ok (.iload_n 3, 1) := by decide +kernel
theorem dX6_find_94 : decode cX6_find 94 = .ok (.invokestatic 191, 3) := by decide +kernel
theorem dX6_find_97 : decode cX6_find 97 = .ok (.iaload, 1) := by decide +kernel
theorem dX6_find_98 : decode cX6_find 98 = .ok (.ireturn, 1) := by decide +kernel
theorem ggX6_assume_X6_isPair : GoodIn wsX6_assume wsX6_isPair := goodIn_mem (fun _ h => List.mem_cons_of_mem _ (List.mem_append_left _ (List.mem_append_left _ (List.mem_append_left _ (List.mem_append_right _ (List.mem_append_left _ h)))))) ok_wsX6_isPair
set_option maxRecDepth 20000 in
theorem gX6_assume_X6_isPair : GoodIn wsX6_assume (wsV RX6 166 RX6 yX6_isPair wsX6_isPair) := goodIn_app (goodIn_of _ (by decide +kernel)) ggX6_assume_X6_isPair
theorem ggX6_assume_X2_has : GoodIn wsX6_assume wsX2_has := goodIn_mem (fun _ h => List.mem_cons_of_mem _ (List.mem_append_left _ (List.mem_append_left _ (List.mem_append_left _ (List.mem_append_right _ (List.mem_append_right _ (List.mem_append_left _ h))))))) ok_wsX2_has
set_option maxRecDepth 20000 in
theorem gX6_assume_X2_has : GoodIn wsX6_assume (wsV RX6 196 RX2 yX2_has wsX2_has) := goodIn_app (goodIn_of _ (by decide +kernel)) ggX6_assume_X2_has
theorem ggX6_assume_X2_add : GoodIn wsX6_assume wsX2_add := goodIn_mem (fun _ h => List.mem_cons_of_mem _ (List.mem_append_left _ (List.mem_append_left _ (List.mem_append_left _ (List.mem_append_right _ (List.mem_append_right _ (List.mem_append_right _ h))))))) ok_wsX2_add
set_option maxRecDepth 20000 in
theorem gX6_assume_X2_add : GoodIn wsX6_assume (wsV RX6 201 RX2 yX2_add wsX2_add) := goodIn_app (goodIn_of _ (by decide +kernel)) ggX6_assume_X2_add
theorem dX6_assume_0 : decode cX6_assume 0 = .ok (.aload_n 0, 1) := by decide +kernel
theorem dX6_assume_1 : decode cX6_assume 1 = .ok (.iload_n 1, 1) := by decide +kernel
theorem dX6_assume_2 : decode cX6_assume 2 = .ok (.iload_n 2, 1) := by decide +kernel
theorem dX6_assume_3 : decode cX6_assume 3 = .ok (.invokevirtual 166, 3) := by decide +kernel
theorem dX6_assume_6 : decode cX6_assume 6 = .ok (.ifCond .ne 6, 3) := by decide +kernel
theorem dX6_assume_9 : decode cX6_assume 9 = .ok (.bipush (-101), 2) := by decide +kernel
theorem dX6_assume_11 : decode cX6_assume 11 = .ok (.ireturn, 1) := by decide +kernel
theorem dX6_assume_12 : decode cX6_assume 12 = .ok (.aload_n 0, 1) := by decide +kernel
theorem dX6_assume_13 : decode cX6_assume 13 = .ok (.getfield 32, 3) := by decide +kernel
theorem dX6_assume_16 : decode cX6_assume 16 = .ok (.iload_n 1, 1) := by decide +kernel
theorem dX6_assume_17 : decode cX6_assume 17 = .ok (.iload_n 2, 1) := by decide +kernel
theorem dX6_assume_18 : decode cX6_assume 18 = .ok (.invokevirtual 196, 3) := by decide +kernel
theorem dX6_assume_21 : decode cX6_assume 21 = .ok (.ifCond .eq 6, 3) := by decide +kernel
theorem dX6_assume_24 : decode cX6_assume 24 = .ok (.bipush (-103), 2) := by decide +kernel
theorem dX6_assume_26 : decode cX6_assume 26 = .ok (.ireturn, 1) := by decide +kernel
theorem dX6_assume_27 : decode cX6_assume 27 = .ok (.aload_n 0, 1) := by decide +kernel
theorem dX6_assume_28 : decode cX6_assume 28 = .ok (.getfield 32, 3) := by decide +kernel
theorem dX6_assume_31 : decode cX6_assume 31 = .ok (.getfield 198, 3) := by decide +kernel
theorem dX6_assume_34 : decode cX6_assume 34 = .ok (.bipush 6, 2) := by decide +kernel
theorem dX6_assume_36 : decode cX6_assume 36 = .ok (.if_icmp .ne 8, 3) := by decide +kernel
theorem dX6_assume_39 : decode cX6_assume 39 = .ok (.bipush (-104), 2) := by decide +kernel
theorem dX6_assume_41 : decode cX6_assume 41 = .ok (.goto 12, 3) := by decide +kernel
theorem dX6_assume_44 : decode cX6_assume 44 = .ok (.aload_n 0, 1) := by decide +kernel
theorem dX6_assume_45 : decode cX6_assume 45 = .ok (.getfield 32, 3) := by decide +kernel
theorem dX6_assume_48 : decode cX6_assume 48 = .ok (.iload_n 1, 1) := by decide +kernel
theorem dX6_assume_49 : decode cX6_assume 49 = .ok (.iload_n 2, 1) := by decide +kernel
theorem dX6_assume_50 : decode cX6_assume 50 = .ok (.invokevirtual 201, 3) := by decide +kernel
theorem dX6_assume_53 : decode cX6_assume 53 = .ok (.ireturn, 1) := by decide +kernel
theorem dX6_drop_0 : decode cX6_drop 0 = .ok (.aload_n 0, 1) := by decide +kernel
theorem dX6_drop_1 : decode cX6_drop 1 = .ok (.getfield 32, 3) := by decide +kernel
theorem dX6_drop_4 : decode cX6_drop 4 = .ok (.getfield 198, 3) := by decide +kernel
theorem dX6_drop_7 : decode cX6_drop 7 = .ok (.istore_n 1, 1) := by decide +kernel
theorem dX6_drop_8 : decode cX6_drop 8 = .ok (.aload_n 0, 1) := by decide +kernel
theorem dX6_drop_9 : decode cX6_drop 9 = .ok (.getfield 32, 3) := by decide +kernel
theorem dX6_drop_12 : decode cX6_drop 12 = .ok (.iconst 0, 1) := by decide +kernel
theorem dX6_drop_13 : decode cX6_drop 13 = .ok (.putfield 198, 3) := by decide +kernel
theorem dX6_drop_16 : decode cX6_drop 16 = .ok (.iload_n 1, 1) := by decide +kernel
theorem dX6_drop_17 : decode cX6_drop 17 = .ok (.ireturn, 1) := by decide +kernel
theorem ggX6_prove_X4_begin : GoodIn wsX6_prove wsX4_begin := goodIn_mem (fun _ h => List.mem_cons_of_mem _ (List.mem_append_left _ (List.mem_append_left _ (List.mem_append_left _ (List.mem_append_left _ (List.mem_append_left _ (List.mem_append_left _ (List.mem_append_left _ (List.mem_append_right _ (List.mem_append_left _ h)))))))))) ok_wsX4_begin
set_option maxRecDepth 20000 in
theorem gX6_prove_X4_begin : GoodIn wsX6_prove (wsV RX6 204 RX4 yX4_begin wsX4_begin) := goodIn_app (goodIn_of _ (by decide +kernel)) ggX6_prove_X4_begin
theorem ggX6_prove_X6_proveInputs : GoodIn wsX6_prove wsX6_proveInputs := goodIn_mem (fun _ h => List.mem_cons_of_mem _ (List.mem_append_left _ (List.mem_append_left _ (List.mem_append_left _ (List.mem_append_left _ (List.mem_append_left _ (List.mem_append_left _ (List.mem_append_left _ (List.mem_append_right _ (List.mem_append_right _ h)))))))))) ok_wsX6_proveInputs
set_option maxRecDepth 20000 in
theorem gX6_prove_X6_proveInputs : GoodIn wsX6_prove (wsV RX6 211 RX6 yX6_proveInputs wsX6_proveInputs) := goodIn_app (goodIn_of _ (by decide +kernel)) ggX6_prove_X6_proveInputs
theorem dX6_prove_0 : decode cX6_prove 0 = .ok (.aload_n 0, 1) := by decide +kernel
theorem dX6_prove_1 : decode cX6_prove 1 = .ok (.getfield 39, 3) := by decide +kernel
theorem dX6_prove_4 : decode cX6_prove 4 = .ok (.aload_n 0, 1) := by decide +kernel
theorem dX6_prove_5 : decode cX6_prove 5 = .ok (.getfield 32, 3) := by decide +kernel
theorem dX6_prove_8 : decode cX6_prove 8 = .ok (.getfield 198, 3) := by decide +kernel
theorem dX6_prove_11 : decode cX6_prove 11 = .ok (.invokevirtual 204, 3) := by decide +kernel
theorem dX6_prove_14 : decode cX6_prove 14 = .ok (.iconst 0, 1) := by decide +kernel
theorem dX6_prove_15 : decode cX6_prove 15 = .ok (.istore_n 1, 1) := by decide +kernel
theorem dX6_prove_16 : decode cX6_prove 16 = .ok (.iload_n 1, 1) := by decide +kernel
theorem dX6_prove_17 : decode cX6_prove 17 = .ok (.aload_n 0, 1) := by decide +kernel
theorem dX6_prove_18 : decode cX6_prove 18 = .ok (.getfield 32, 3) := by decide +kernel
theorem dX6_prove_21 : decode cX6_prove 21 = .ok (.getfield 198, 3) := by decide +kernel
theorem dX6_prove_24 : decode cX6_prove 24 = .ok (.if_icmp .ge 58, 3) := by decide +kernel
theorem dX6_prove_27 : decode cX6_prove 27 = .ok (.iconst 0, 1) := by decide +kernel
theorem dX6_prove_28 : decode cX6_prove 28 = .ok (.istore_n 2, 1) := by decide +kernel
theorem dX6_prove_29 : decode cX6_prove 29 = .ok (.iload_n 2, 1) := by decide +kernel
theorem dX6_prove_30 : decode cX6_prove 30 = .ok (.aload_n 0, 1) := by decide +kernel
theorem dX6_prove_31 : decode cX6_prove 31 = .ok (.getfield 59, 3) := by decide +kernel
theorem dX6_prove_34 : decode cX6_prove 34 = .ok (.if_icmp .gt 42, 3) := by decide +kernel
theorem dX6_prove_37 : decode cX6_prove 37 = .ok (.iconst 0, 1) := by decide +kernel
theorem dX6_prove_38 : decode cX6_prove 38 = .ok (.istore_n 3, 1) := by decide +kernel
theorem dX6_prove_39 : decode cX6_prove 39 = .ok (.iload_n 3, 1) := by decide +kernel
theorem dX6_prove_40 : decode cX6_prove 40 = .ok (.aload_n 0, 1) := by decide +kernel
theorem dX6_prove_41 : decode cX6_prove 41 = .ok (.getfield 59, 3) := by decide +kernel
theorem dX6_prove_44 : decode cX6_prove 44 = .ok (.if_icmp .gt 26, 3) := by decide +kernel
theorem dX6_prove_47 : decode cX6_prove 47 = .ok (.aload_n 0, 1) := by decide +kernel
theorem dX6_prove_48 : decode cX6_prove 48 = .ok (.getfield 39, 3) := by decide +kernel
theorem dX6_prove_51 : decode cX6_prove 51 = .ok (.getfield 208, 3) := by decide +kernel
theorem dX6_prove_54 : decode cX6_prove 54 = .ok (.ifCond .eq 10, 3) := by decide +kernel
theorem dX6_prove_57 : decode cX6_prove 57 = .ok (.aload_n 0, 1) := by decide +kernel
theorem dX6_prove_58 : decode cX6_prove 58 = .ok (.iload_n 1, 1) := by decide +kernel
theorem dX6_prove_59 : decode cX6_prove 59 = .ok (.iload_n 2, 1) := by decide +kernel
theorem dX6_prove_60 : decode cX6_prove 60 = .ok (.iload_n 3, 1) := by decide +kernel
theorem dX6_prove_61 : decode cX6_prove 61 = .ok (.invokevirtual 211, 3) := by decide +kernel
theorem dX6_prove_64 : decode cX6_prove 64 = .ok (.iinc 3 1, 3) := by decide +kernel
theorem dX6_prove_67 : decode cX6_prove 67 = .ok (.goto (-28), 3) := by decide +kernel
theorem dX6_prove_70 : decode cX6_prove 70 = .ok (.iinc 2 1, 3) := by decide +kernel
theorem dX6_prove_73 : decode cX6_prove 73 = .ok (.goto (-44), 3) := by decide +kernel
theorem dX6_prove_76 : decode cX6_prove 76 = .ok (.iinc 1 1, 3) := by decide +kernel
theorem dX6_prove_79 : decode cX6_prove 79 = .ok (.goto (-63), 3) := by decide +kernel
theorem dX6_prove_82 : decode cX6_prove 82 = .ok (.aload_n 0, 1) := by decide +kernel
theorem dX6_prove_83 : decode cX6_prove 83 = .ok (.getfield 39, 3) := by decide +kernel
theorem dX6_prove_86 : decode cX6_prove 86 = .ok (.getfield 208, 3) := by decide +kernel
theorem dX6_prove_89 : decode cX6_prove 89 = .ok (.ireturn, 1) := by decide +kernel
theorem ggX6_why_X6_within : GoodIn wsX6_why wsX6_within := goodIn_mem (fun _ h => List.mem_cons_of_mem _ (List.mem_append_left _ (List.mem_append_left _ (List.mem_append_right _ h)))) ok_wsX6_within
set_option maxRecDepth 20000 in
theorem gX6_why_X6_within : GoodIn wsX6_why (va_wsS RX6 83 yX6_within wsX6_within) := goodIn_app (goodIn_of _ (by decide +kernel)) ggX6_why_X6_within
theorem dX6_why_0 : decode cX6_why 0 = .ok (.iload_n 1, 1) := by decide +kernel
theorem dX6_why_1 : decode cX6_why 1 = .ok (.iconst 0, 1) := by decide +kernel
theorem dX6_why_2 : decode cX6_why 2 = .ok (.iconst 4, 1) := by decide +kernel
theorem dX6_why_3 : decode cX6_why 3 = .ok (.invokestatic 83, 3) := by decide +kernel
theorem dX6_why_6 : decode cX6_why 6 = .ok (.ifCond .eq 15, 3) := by decide +kernel
theorem dX6_why_9 : decode cX6_why 9 = .ok (.aload_n 0, 1) := by decide +kernel
theorem dX6_why_10 : decode cX6_why 10 = .ok (.getfield 39, 3) := by decide +kernel
theorem dX6_why_13 : decode cX6_why 13 = .ok (.getfield 214, 3) := by decide +kernel
theorem dX6_why_16 : decode cX6_why 16 = .ok (.iload_n 1, 1) := by decide +kernel
theorem dX6_why_17 : decode cX6_why 17 = .ok (.iaload, 1) := by decide +kernel
theorem dX6_why_18 : decode cX6_why 18 = .ok (.goto 5, 3) := by decide +kernel
theorem dX6_why_21 : decode cX6_why 21 = .ok (.bipush (-101), 2) := by decide +kernel
theorem dX6_why_23 : decode cX6_why 23 = .ok (.ireturn, 1) := by decide +kernel
theorem dX6_count_0 : decode cX6_count 0 = .ok (.iload_n 1, 1) := by decide +kernel
theorem dX6_count_1 : decode cX6_count 1 = .ok (.tableswitch 117 0 11 #[63, 71, 79, 87, 92, 92, 92, 92, 104, 104, 104, 104], 63) := by decide +kernel
theorem dX6_count_64 : decode cX6_count 64 = .ok (.aload_n 0, 1) := by decide +kernel
theorem dX6_count_65 : decode cX6_count 65 = .ok (.getfield 10, 3) := by decide +kernel
theorem dX6_count_68 : decode cX6_count 68 = .ok (.getfield 91, 3) := by decide +kernel
theorem dX6_count_71 : decode cX6_count 71 = .ok (.ireturn, 1) := by decide +kernel
theorem dX6_count_72 : decode cX6_count 72 = .ok (.aload_n 0, 1) := by decide +kernel
theorem dX6_count_73 : decode cX6_count 73 = .ok (.getfield 16, 3) := by decide +kernel
theorem dX6_count_76 : decode cX6_count 76 = .ok (.getfield 91, 3) := by decide +kernel
theorem dX6_count_79 : decode cX6_count 79 = .ok (.ireturn, 1) := by decide +kernel
theorem dX6_count_80 : decode cX6_count 80 = .ok (.aload_n 0, 1) := by decide +kernel
theorem dX6_count_81 : decode cX6_count 81 = .ok (.getfield 32, 3) := by decide +kernel
theorem dX6_count_84 : decode cX6_count 84 = .ok (.getfield 198, 3) := by decide +kernel
theorem dX6_count_87 : decode cX6_count 87 = .ok (.ireturn, 1) := by decide +kernel
theorem dX6_count_88 : decode cX6_count 88 = .ok (.aload_n 0, 1) := by decide +kernel
theorem dX6_count_89 : decode cX6_count 89 = .ok (.getfield 56, 3) := by decide +kernel
theorem dX6_count_92 : decode cX6_count 92 = .ok (.ireturn, 1) := by decide +kernel
theorem dX6_count_93 : decode cX6_count 93 = .ok (.aload_n 0, 1) := by decide +kernel
theorem dX6_count_94 : decode cX6_count 94 = .ok (.getfield 22, 3) := by decide +kernel
theorem dX6_count_97 : decode cX6_count 97 = .ok (.getfield 217, 3) := by decide +kernel
theorem dX6_count_100 : decode cX6_count 100 = .ok (.iload_n 1, 1) := by decide +kernel
theorem dX6_count_101 : decode cX6_count 101 = .ok (.iconst 4, 1) := by decide +kernel
theorem dX6_count_102 : decode cX6_count 102 = .ok (.isub, 1) := by decide +kernel
theorem dX6_count_103 : decode cX6_count 103 = .ok (.iaload, 1) := by decide +kernel
theorem dX6_count_104 : decode cX6_count 104 = .ok (.ireturn, 1) := by decide +kernel
theorem dX6_count_105 : decode cX6_count 105 = .ok (.aload_n 0, 1) := by decide +kernel
theorem dX6_count_106 : decode cX6_count 106 = .ok (.getfield 22, 3) := by decide +kernel
theorem dX6_count_109 : decode cX6_count 109 = .ok (.getfield 163, 3) := by decide +kernel
theorem dX6_count_112 : decode cX6_count 112 = .ok (.iload_n 1, 1) := by decide +kernel
theorem dX6_count_113 : decode cX6_count 113 = .ok (.bipush 8, 2) := by decide +kernel
theorem dX6_count_115 : decode cX6_count 115 = .ok (.isub, 1) := by decide +kernel
theorem dX6_count_116 : decode cX6_count 116 = .ok (.iaload, 1) := by decide +kernel
theorem dX6_count_117 : decode cX6_count 117 = .ok (.ireturn, 1) := by decide +kernel
theorem dX6_count_118 : decode cX6_count 118 = .ok (.bipush (-101), 2) := by decide +kernel
theorem dX6_count_120 : decode cX6_count 120 = .ok (.ireturn, 1) := by decide +kernel
theorem dX6_within_0 : decode cX6_within 0 = .ok (.iload_n 0, 1) := by decide +kernel
theorem dX6_within_1 : decode cX6_within 1 = .ok (.iload_n 1, 1) := by decide +kernel
theorem dX6_within_2 : decode cX6_within 2 = .ok (.if_icmp .lt 12, 3) := by decide +kernel
theorem dX6_within_5 : decode cX6_within 5 = .ok (.iload_n 0, 1) := by decide +kernel
theorem dX6_within_6 : decode cX6_within 6 = .ok (.iload_n 2, 1) := by decide +kernel
theorem dX6_within_7 : decode cX6_within 7 = .ok (.if_icmp .gt 7, 3) := by decide +kernel
theorem dX6_within_10 : decode cX6_within 10 = .ok (.iconst 1, 1) := by decide +kernel
theorem dX6_within_11 : decode cX6_within 11 = .ok (.goto 4, 3) := by decide +kernel
theorem dX6_within_14 : decode cX6_within 14 = .ok (.iconst 0, 1) := by decide +kernel
theorem dX6_within_15 : decode cX6_within 15 = .ok (.ireturn, 1) := by decide +kernel
theorem dX6_buildOf_0 : decode cX6_buildOf 0 = .ok (.iload_n 1, 1) := by decide +kernel
theorem dX6_buildOf_1 : decode cX6_buildOf 1 = .ok (.ifCond .ne 10, 3) := by decide +kernel
theorem dX6_buildOf_4 : decode cX6_buildOf 4 = .ok (.aload_n 0, 1) := by decide +kernel
theorem dX6_buildOf_5 : decode cX6_buildOf 5 = .ok (.getfield 10, 3) := by decide +kernel
theorem dX6_buildOf_8 : decode cX6_buildOf 8 = .ok (.goto 7, 3) := by decide +kernel
theorem dX6_buildOf_11 : decode cX6_buildOf 11 = .ok (.aload_n 0, 1) := by decide +kernel
theorem dX6_buildOf_12 : decode cX6_buildOf 12 = .ok (.getfield 16, 3) := by decide +kernel
theorem dX6_buildOf_15 : decode cX6_buildOf 15 = .ok (.areturn, 1) := by decide +kernel
theorem ggX6_isMethod_X6_within : GoodIn wsX6_isMethod wsX6_within := goodIn_mem (fun _ h => List.mem_cons_of_mem _ (List.mem_append_left _ (List.mem_append_left _ (List.mem_append_right _ (List.mem_append_left _ h))))) ok_wsX6_within
set_option maxRecDepth 20000 in
theorem gX6_isMethod_X6_within : GoodIn wsX6_isMethod (va_wsS RX6 83 yX6_within wsX6_within) := goodIn_app (goodIn_of _ (by decide +kernel)) ggX6_isMethod_X6_within
theorem ggX6_isMethod_X6_buildOf : GoodIn wsX6_isMethod wsX6_buildOf := goodIn_mem (fun _ h => List.mem_cons_of_mem _ (List.mem_append_left _ (List.mem_append_left _ (List.mem_append_right _ (List.mem_append_right _ (List.mem_append_left _ h)))))) ok_wsX6_buildOf
set_option maxRecDepth 20000 in
theorem gX6_isMethod_X6_buildOf : GoodIn wsX6_isMethod (wsV RX6 87 RX6 yX6_buildOf wsX6_buildOf) := goodIn_app (goodIn_of _ (by decide +kernel)) ggX6_isMethod_X6_buildOf
theorem ggX6_isMethod_X0_has : GoodIn wsX6_isMethod wsX0_has := goodIn_mem (fun _ h => List.mem_cons_of_mem _ (List.mem_append_left _ (List.mem_append_left _ (List.mem_append_right _ (List.mem_append_right _ (List.mem_append_right _ h)))))) ok_wsX0_has
set_option maxRecDepth 20000 in
theorem gX6_isMethod_X0_has : GoodIn wsX6_isMethod (wsV RX6 172 RX0 yX0_has wsX0_has) := goodIn_app (goodIn_of _ (by decide +kernel)) ggX6_isMethod_X0_has
theorem dX6_isMethod_0 : decode cX6_isMethod 0 = .ok (.iload_n 1, 1) := by decide +kernel
theorem dX6_isMethod_1 : decode cX6_isMethod 1 = .ok (.iconst 0, 1) := by decide +kernel
theorem dX6_isMethod_2 : decode cX6_isMethod 2 = .ok (.iconst 1, 1) := by decide +kernel
theorem dX6_isMethod_3 : decode cX6_isMethod 3 = .ok (.invokestatic 83, 3) := by decide +kernel
theorem dX6_isMethod_6 : decode cX6_isMethod 6 = .ok (.ifCond .eq 19, 3) := by decide +kernel
theorem dX6_isMethod_9 : decode cX6_isMethod 9 = .ok (.aload_n 0, 1) := by decide +kernel
theorem dX6_isMethod_10 : decode cX6_isMethod 10 = .ok (.iload_n 1, 1) := by decide +kernel
theorem dX6_isMethod_11 : decode cX6_isMethod 11 = .ok (.invokevirtual 87, 3) := by decide +kernel
theorem dX6_isMethod_14 : decode cX6_isMethod 14 = .ok (.iload_n 2, 1) := by decide +kernel
theorem dX6_isMethod_15 : decode cX6_isMethod 15 = .ok (.invokevirtual 172, 3) := by decide +kernel
theorem dX6_isMethod_18 : decode cX6_isMethod 18 = .ok (.ifCond .eq 7, 3) := by decide +kernel
theorem dX6_isMethod_21 : decode cX6_isMethod 21 = .ok (.iconst 1, 1) := by decide +kernel
theorem dX6_isMethod_22 : decode cX6_isMethod 22 = .ok (.goto 4, 3) := by decide +kernel
theorem dX6_isMethod_25 : decode cX6_isMethod 25 = .ok (.iconst 0, 1) := by decide +kernel
theorem dX6_isMethod_26 : decode cX6_isMethod 26 = .ok (.ireturn, 1) := by decide +kernel
theorem ggX6_isPort_X6_within : GoodIn wsX6_isPort wsX6_within := goodIn_mem (fun _ h => List.mem_cons_of_mem _ (List.mem_append_right _ h)) ok_wsX6_within
set_option maxRecDepth 20000 in
theorem gX6_isPort_X6_within : GoodIn wsX6_isPort (va_wsS RX6 83 yX6_within wsX6_within) := goodIn_app (goodIn_of _ (by decide +kernel)) ggX6_isPort_X6_within
theorem dX6_isPort_0 : decode cX6_isPort 0 = .ok (.iload_n 0, 1) := by decide +kernel
theorem dX6_isPort_1 : decode cX6_isPort 1 = .ok (.iconst 0, 1) := by decide +kernel
theorem dX6_isPort_2 : decode cX6_isPort 2 = .ok (.iconst 3, 1) := by decide +kernel
theorem dX6_isPort_3 : decode cX6_isPort 3 = .ok (.invokestatic 83, 3) := by decide +kernel
theorem dX6_isPort_6 : decode cX6_isPort 6 = .ok (.ireturn, 1) := by decide +kernel
theorem ggX6_isPair_X0_has : GoodIn wsX6_isPair wsX0_has := goodIn_mem (fun _ h => List.mem_cons_of_mem _ (List.mem_append_left _ (List.mem_append_left _ (List.mem_append_right _ h)))) ok_wsX0_has
set_option maxRecDepth 20000 in
theorem gX6_isPair_X0_has : GoodIn wsX6_isPair (wsV RX6 172 RX0 yX0_has wsX0_has) := goodIn_app (goodIn_of _ (by decide +kernel)) ggX6_isPair_X0_has
theorem dX6_isPair_0 : decode cX6_isPair 0 = .ok (.aload_n 0, 1) := by decide +kernel
theorem dX6_isPair_1 : decode cX6_isPair 1 = .ok (.getfield 10, 3) := by decide +kernel
theorem dX6_isPair_4 : decode cX6_isPair 4 = .ok (.iload_n 1, 1) := by decide +kernel
theorem dX6_isPair_5 : decode cX6_isPair 5 = .ok (.invokevirtual 172, 3) := by decide +kernel
theorem dX6_isPair_8 : decode cX6_isPair 8 = .ok (.ifCond .eq 18, 3) := by decide +kernel
theorem dX6_isPair_11 : decode cX6_isPair 11 = .ok (.aload_n 0, 1) := by decide +kernel
theorem dX6_isPair_12 : decode cX6_isPair 12 = .ok (.getfield 16, 3) := by decide +kernel
theorem dX6_isPair_15 : decode cX6_isPair 15 = .ok (.iload_n 2, 1) := by decide +kernel
theorem dX6_isPair_16 : decode cX6_isPair 16 = .ok (.invokevirtual 172, 3) := by decide +kernel
theorem dX6_isPair_19 : decode cX6_isPair 19 = .ok (.ifCond .eq 7, 3) := by decide +kernel
theorem dX6_isPair_22 : decode cX6_isPair 22 = .ok (.iconst 1, 1) := by decide +kernel
theorem dX6_isPair_23 : decode cX6_isPair 23 = .ok (.goto 4, 3) := by decide +kernel
theorem dX6_isPair_26 : decode cX6_isPair 26 = .ok (.iconst 0, 1) := by decide +kernel
theorem dX6_isPair_27 : decode cX6_isPair 27 = .ok (.ireturn, 1) := by decide +kernel
theorem ggX6_fits_X6_within : GoodIn wsX6_fits wsX6_within := goodIn_mem (fun _ h => List.mem_cons_of_mem _ (List.mem_append_left _ (List.mem_append_right _ (List.mem_append_left _ h)))) ok_wsX6_within
set_option maxRecDepth 20000 in
theorem gX6_fits_X6_within : GoodIn wsX6_fits (va_wsS RX6 83 yX6_within wsX6_within) := goodIn_app (goodIn_of _ (by decide +kernel)) ggX6_fits_X6_within
theorem ggX6_fits_X6_isPort : GoodIn wsX6_fits wsX6_isPort := goodIn_mem (fun _ h => List.mem_cons_of_mem _ (List.mem_append_left _ (List.mem_append_right _ (List.mem_append_right _ h)))) ok_wsX6_isPort
set_option maxRecDepth 20000 in
theorem gX6_fits_X6_isPort : GoodIn wsX6_fits (va_wsS RX6 155 yX6_isPort wsX6_isPort) := goodIn_app (goodIn_of _ (by decide +kernel)) ggX6_fits_X6_isPort
theorem dX6_fits_0 : decode cX6_fits 0 = .ok (.getstatic 220, 3) := by decide +kernel
theorem dX6_fits_3 : decode cX6_fits 3 = .ok (.iconst 3, 1) := by decide +kernel
theorem dX6_fits_4 : decode cX6_fits 4 = .ok (.iload_n 1, 1) := by decide +kernel
theorem dX6_fits_5 : decode cX6_fits 5 = .ok (.imul, 1) := by decide +kernel
theorem dX6_fits_6 : decode cX6_fits 6 = .ok (.iload_n 2, 1) := by decide +kernel
theorem dX6_fits_7 : decode cX6_fits 7 = .ok (.iadd, 1) := by decide +kernel
theorem dX6_fits_8 : decode cX6_fits 8 = .ok (.iaload, 1) := by decide +kernel
theorem dX6_fits_9 : decode cX6_fits 9 = .ok (.tableswitch 84 1 6 #[39, 46, 56, 64, 69, 76], 39) := by decide +kernel
theorem dX6_fits_48 : decode cX6_fits 48 = .ok (.iload_n 3, 1) := by decide +kernel
theorem dX6_fits_49 : decode cX6_fits 49 = .ok (.iconst 0, 1) := by decide +kernel
theorem dX6_fits_50 : decode cX6_fits 50 = .ok (.iconst 5, 1) := by decide +kernel
theorem dX6_fits_51 : decode cX6_fits 51 = .ok (.invokestatic 83, 3) := by decide +kernel
theorem dX6_fits_54 : decode cX6_fits 54 = .ok (.ireturn, 1) := by decide +kernel
theorem dX6_fits_55 : decode cX6_fits 55 = .ok (.iload_n 3, 1) := by decide +kernel
theorem dX6_fits_56 : decode cX6_fits 56 = .ok (.iconst 0, 1) := by decide +kernel
theorem dX6_fits_57 : decode cX6_fits 57 = .ok (.aload_n 0, 1) := by decide +kernel
theorem dX6_fits_58 : decode cX6_fits 58 = .ok (.getfield 59, 3) := by decide +kernel
theorem dX6_fits_61 : decode cX6_fits 61 = .ok (.invokestatic 83, 3) := by decide +kernel
theorem dX6_fits_64 : decode cX6_fits 64 = .ok (.ireturn, 1) := by decide +kernel
theorem dX6_fits_65 : decode cX6_fits 65 = .ok (.iload_n 3, 1) := by decide +kernel
theorem dX6_fits_66 : decode cX6_fits 66 = .ok (.iconst 0, 1) := by decide +kernel
theorem dX6_fits_67 : decode cX6_fits 67 = .ok (.bipush 24, 2) := by decide +kernel
theorem dX6_fits_69 : decode cX6_fits 69 = .ok (.invokestatic 83, 3) := by decide +kernel
theorem dX6_fits_72 : decode cX6_fits 72 = .ok (.ireturn, 1) := by decide +kernel
theorem dX6_fits_73 : decode cX6_fits 73 = .ok (.iload_n 3, 1) := by decide +kernel
theorem dX6_fits_74 : decode cX6_fits 74 = .ok (.invokestatic 155, 3) := by decide +kernel
theorem dX6_fits_77 : decode cX6_fits 77 = .ok (.ireturn, 1) := by decide +kernel
theorem dX6_fits_78 : decode cX6_fits 78 = .ok (.iload_n 3, 1) := by decide +kernel
theorem dX6_fits_79 : decode cX6_fits 79 = .ok (.iconst 0, 1) := by decide +kernel
theorem dX6_fits_80 : decode cX6_fits 80 = .ok (.iconst 5, 1) := by decide +kernel
theorem dX6_fits_81 : decode cX6_fits 81 = .ok (.invokestatic 83, 3) := by decide +kernel
theorem dX6_fits_84 : decode cX6_fits 84 = .ok (.ireturn, 1) := by decide +kernel
theorem dX6_fits_85 : decode cX6_fits 85 = .ok (.iload_n 3, 1) := by decide +kernel
theorem dX6_fits_86 : decode cX6_fits 86 = .ok (.iconst 2, 1) := by decide +kernel
theorem dX6_fits_87 : decode cX6_fits 87 = .ok (.bipush 7, 2) := by decide +kernel
theorem dX6_fits_89 : decode cX6_fits 89 = .ok (.invokestatic 83, 3) := by decide +kernel
theorem dX6_fits_92 : decode cX6_fits 92 = .ok (.ireturn, 1) := by decide +kernel
theorem dX6_fits_93 : decode cX6_fits 93 = .ok (.iconst 1, 1) := by decide +kernel
theorem dX6_fits_94 : decode cX6_fits 94 = .ok (.ireturn, 1) := by decide +kernel
theorem ggX6_runBoth_X1_go : GoodIn wsX6_runBoth wsX1_go := goodIn_mem (fun _ h => List.mem_cons_of_mem _ (List.mem_append_left _ (List.mem_append_left _ (List.mem_append_left _ (List.mem_append_left _ (List.mem_append_right _ h)))))) ok_wsX1_go
set_option maxRecDepth 20000 in
theorem gX6_runBoth_X1_go : GoodIn wsX6_runBoth (wsV RX6 121 RX1 yX1_go wsX1_go) := goodIn_app (goodIn_of _ (by decide +kernel)) ggX6_runBoth_X1_go
theorem dX6_runBoth_0 : decode cX6_runBoth 0 = .ok (.aload_n 0, 1) := by decide +kernel
theorem dX6_runBoth_1 : decode cX6_runBoth 1 = .ok (.getfield 71, 3) := by decide +kernel
theorem dX6_runBoth_4 : decode cX6_runBoth 4 = .ok (.iload_n 1, 1) := by decide +kernel
theorem dX6_runBoth_5 : decode cX6_runBoth 5 = .ok (.iload_n 3, 1) := by decide +kernel
theorem dX6_runBoth_6 : decode cX6_runBoth 6 = .ok (.iload 4, 2) := by decide +kernel
theorem dX6_runBoth_8 : decode cX6_runBoth 8 = .ok (.invokevirtual 121, 3) := by decide +kernel
theorem dX6_runBoth_11 : decode cX6_runBoth 11 = .ok (.aload_n 0, 1) := by decide +kernel
theorem dX6_runBoth_12 : decode cX6_runBoth 12 = .ok (.getfield 74, 3) := by decide +kernel
theorem dX6_runBoth_15 : decode cX6_runBoth 15 = .ok (.iload_n 2, 1) := by decide +kernel
theorem dX6_runBoth_16 : decode cX6_runBoth 16 = .ok (.iload_n 3, 1) := by decide +kernel
theorem dX6_runBoth_17 : decode cX6_runBoth 17 = .ok (.iload 4, 2) := by decide +kernel
theorem dX6_runBoth_19 : decode cX6_runBoth 19 = .ok (.invokevirtual 121, 3) := by decide +kernel
theorem dX6_runBoth_22 : decode cX6_runBoth 22 = .ok (.aload_n 0, 1) := by decide +kernel
theorem dX6_runBoth_23 : decode cX6_runBoth 23 = .ok (.getfield 71, 3) := by decide +kernel
theorem dX6_runBoth_26 : decode cX6_runBoth 26 = .ok (.getfield 125, 3) := by decide +kernel
theorem dX6_runBoth_29 : decode cX6_runBoth 29 = .ok (.getfield 129, 3) := by decide +kernel
theorem dX6_runBoth_32 : decode cX6_runBoth 32 = .ok (.iconst 2, 1) := by decide +kernel
theorem dX6_runBoth_33 : decode cX6_runBoth 33 = .ok (.if_icmp .eq 21, 3) := by decide +kernel
theorem dX6_runBoth_36 : decode cX6_runBoth 36 = .ok (.aload_n 0, 1) := by decide +kernel
theorem dX6_runBoth_37 : decode cX6_runBoth 37 = .ok (.getfield 74, 3) := by decide +kernel
theorem dX6_runBoth_40 : decode cX6_runBoth 40 = .ok (.getfield 125, 3) := by decide +kernel
theorem dX6_runBoth_43 : decode cX6_runBoth 43 = .ok (.getfield 129, 3) := by decide +kernel
theorem dX6_runBoth_46 : decode cX6_runBoth 46 = .ok (.iconst 2, 1) := by decide +kernel
theorem dX6_runBoth_47 : decode cX6_runBoth 47 = .ok (.if_icmp .eq 7, 3) := by decide +kernel
theorem dX6_runBoth_50 : decode cX6_runBoth 50 = .ok (.iconst 1, 1) := by decide +kernel
theorem dX6_runBoth_51 : decode cX6_runBoth 51 = .ok (.goto 4, 3) := by decide +kernel
theorem dX6_runBoth_54 : decode cX6_runBoth 54 = .ok (.iconst 0, 1) := by decide +kernel
theorem dX6_runBoth_55 : decode cX6_runBoth 55 = .ok (.ireturn, 1) := by decide +kernel
theorem ggX6_held_X6_runBoth : GoodIn wsX6_held wsX6_runBoth := goodIn_mem (fun _ h => List.mem_cons_of_mem _ (List.mem_append_left _ (List.mem_append_left _ (List.mem_append_left _ (List.mem_append_left _ (List.mem_append_left _ (List.mem_append_right _ (List.mem_append_left _ h)))))))) ok_wsX6_runBoth
set_option maxRecDepth 20000 in
theorem gX6_held_X6_runBoth : GoodIn wsX6_held (wsV RX6 180 RX6 yX6_runBoth wsX6_runBoth) := goodIn_app (goodIn_of _ (by decide +kernel)) ggX6_held_X6_runBoth
theorem ggX6_held_X6_runsAlike : GoodIn wsX6_held wsX6_runsAlike := goodIn_mem (fun _ h => List.mem_cons_of_mem _ (List.mem_append_left _ (List.mem_append_left _ (List.mem_append_left _ (List.mem_append_left _ (List.mem_append_left _ (List.mem_append_right _ (List.mem_append_right _ h)))))))) ok_wsX6_runsAlike
set_option maxRecDepth 20000 in
theorem gX6_held_X6_runsAlike : GoodIn wsX6_held (wsV RX6 223 RX6 yX6_runsAlike wsX6_runsAlike) := goodIn_app (goodIn_of _ (by decide +kernel)) ggX6_held_X6_runsAlike
theorem dX6_held_0 : decode cX6_held 0 = .ok (.iconst 1, 1) := by decide +kernel
theorem dX6_held_1 : decode cX6_held 1 = .ok (.istore_n 3, 1) := by decide +kernel
theorem dX6_held_2 : decode cX6_held 2 = .ok (.iconst 0, 1) := by decide +kernel
theorem dX6_held_3 : decode cX6_held 3 = .ok (.istore 4, 2) := by decide +kernel
theorem dX6_held_5 : decode cX6_held 5 = .ok (.iload 4, 2) := by decide +kernel
theorem dX6_held_7 : decode cX6_held 7 = .ok (.aload_n 0, 1) := by decide +kernel
theorem dX6_held_8 : decode cX6_held 8 = .ok (.getfield 59, 3) := by decide +kernel
theorem dX6_held_11 : decode cX6_held 11 = .ok (.if_icmp .gt 70, 3) := by decide +kernel
theorem dX6_held_14 : decode cX6_held 14 = .ok (.iconst 0, 1) := by decide +kernel
theorem dX6_held_15 : decode cX6_held 15 = .ok (.istore 5, 2) := by decide +kernel
theorem dX6_held_17 : decode cX6_held 17 = .ok (.iload 5, 2) := by decide +kernel
theorem dX6_held_19 : decode cX6_held 19 = .ok (.aload_n 0, 1) := by decide +kernel
theorem dX6_held_20 : decode cX6_held 20 = .ok (.getfield 59, 3) := by decide +kernel
theorem dX6_held_23 : decode cX6_held 23 = .ok (.if_icmp .gt 52, 3) := by decide +kernel
theorem dX6_held_26 : decode cX6_held 26 = .ok (.aload_n 0, 1) := by decide +kernel
theorem dX6_held_27 : decode cX6_held 27 = .ok (.iload_n 1, 1) := by decide +kernel
theorem dX6_held_28 : decode cX6_held 28 = .ok (.iload_n 2, 1) := by decide +kernel
theorem dX6_held_29 : decode cX6_held 29 = .ok (.iload 4, 2) := by decide +kernel
theorem dX6_held_31 : decode cX6_held 31 = .ok (.iload 5, 2) := by decide +kernel
theorem dX6_held_33 : decode cX6_held 33 = .ok (.invokevirtual 180, 3) := by decide +kernel
theorem dX6_held_36 : decode cX6_held 36 = .ok (.ifCond .ne 8, 3) := by decide +kernel
theorem dX6_held_39 : decode cX6_held 39 = .ok (.iconst 2, 1) := by decide +kernel
theorem dX6_held_40 : decode cX6_held 40 = .ok (.istore_n 3, 1) := by decide +kernel
theorem dX6_held_41 : decode cX6_held 41 = .ok (.goto 28, 3) := by decide +kernel
theorem dX6_held_44 : decode cX6_held 44 = .ok (.aload_n 0, 1) := by decide +kernel
theorem dX6_held_45 : decode cX6_held 45 = .ok (.aload_n 0, 1) := by decide +kernel
theorem dX6_held_46 : decode cX6_held 46 = .ok (.getfield 22, 3) := by decide +kernel
theorem dX6_held_49 : decode cX6_held 49 = .ok (.invokevirtual 223, 3) := by decide +kernel
theorem dX6_held_52 : decode cX6_held 52 = .ok (.ifCond .ne 17, 3) := by decide +kernel
theorem dX6_held_55 : decode cX6_held 55 = .ok (.aload_n 0, 1) := by decide +kernel
theorem dX6_held_56 : decode cX6_held 56 = .ok (.iload 4, 2) := by decide +kernel
theorem dX6_held_58 : decode cX6_held 58 = .ok (.putfield 43, 3) := by decide +kernel
theorem dX6_held_61 : decode cX6_held 61 = .ok (.aload_n 0, 1) := by decide +kernel
theorem dX6_held_62 : decode cX6_held 62 = .ok (.iload 5, 2) := by decide +kernel
theorem dX6_held_64 : decode cX6_held 64 = .ok (.putfield 47, 3) := by decide +kernel
theorem dX6_held_67 : decode cX6_held 67 = .ok (.iconst 0, 1) := by decide +kernel
theorem dX6_held_68 : decode cX6_held 68 = .ok (.ireturn, 1) := by decide +kernel
theorem dX6_held_69 : decode cX6_held 69 = .ok (.iinc 5 1, 3) := by decide +kernel
theorem dX6_held_72 : decode cX6_held 72 = .ok (.goto (-55), 3) := by decide +kernel
theorem dX6_held_75 : decode cX6_held 75 = .ok (.iinc 4 1, 3) := by decide +kernel
theorem dX6_held_78 : decode cX6_held 78 = .ok (.goto (-73), 3) := by decide +kernel
theorem dX6_held_81 : decode cX6_held 81 = .ok (.iload_n 3, 1) := by decide +kernel
theorem dX6_held_82 : decode cX6_held 82 = .ok (.ireturn, 1) := by decide +kernel
theorem ggX6_runsAlike_X5_endsLike : GoodIn wsX6_runsAlike wsX5_endsLike := goodIn_mem (fun _ h => List.mem_cons_of_mem _ (List.mem_append_left _ (List.mem_append_left _ (List.mem_append_left _ (List.mem_append_left _ (List.mem_append_right _ (List.mem_append_left _ h))))))) ok_wsX5_endsLike
set_option maxRecDepth 20000 in
theorem gX6_runsAlike_X5_endsLike : GoodIn wsX6_runsAlike (wsV RX6 227 RX5 yX5_endsLike wsX5_endsLike) := goodIn_app (goodIn_of _ (by decide +kernel)) ggX6_runsAlike_X5_endsLike
theorem ggX6_runsAlike_X3_alike : GoodIn wsX6_runsAlike wsX3_alike := goodIn_mem (fun _ h => List.mem_cons_of_mem _ (List.mem_append_left _ (List.mem_append_left _ (List.mem_append_left _ (List.mem_append_left _ (List.mem_append_right _ (List.mem_append_right _ h))))))) ok_wsX3_alike
set_option maxRecDepth 20000 in
theorem gX6_runsAlike_X3_alike : GoodIn wsX6_runsAlike (wsV RX6 231 RX3 yX3_alike wsX3_alike) := goodIn_app (goodIn_of _ (by decide +kernel)) ggX6_runsAlike_X3_alike
theorem dX6_runsAlike_0 : decode cX6_runsAlike 0 = .ok (.aload_n 0, 1) := by decide +kernel
theorem dX6_runsAlike_1 : decode cX6_runsAlike 1 = .ok (.getfield 71, 3) := by decide +kernel
theorem dX6_runsAlike_4 : decode cX6_runsAlike 4 = .ok (.getfield 125, 3) := by decide +kernel
theorem dX6_runsAlike_7 : decode cX6_runsAlike 7 = .ok (.astore_n 2, 1) := by decide +kernel
theorem dX6_runsAlike_8 : decode cX6_runsAlike 8 = .ok (.aload_n 0, 1) := by decide +kernel
theorem dX6_runsAlike_9 : decode cX6_runsAlike 9 = .ok (.getfield 74, 3) := by decide +kernel
theorem dX6_runsAlike_12 : decode cX6_runsAlike 12 = .ok (.getfield 125, 3) := by decide +kernel
theorem dX6_runsAlike_15 : decode cX6_runsAlike 15 = .ok (.astore_n 3, 1) := by decide +kernel
theorem dX6_runsAlike_16 : decode cX6_runsAlike 16 = .ok (.aload_n 2, 1) := by decide +kernel
theorem dX6_runsAlike_17 : decode cX6_runsAlike 17 = .ok (.aload_n 3, 1) := by decide +kernel
theorem dX6_runsAlike_18 : decode cX6_runsAlike 18 = .ok (.invokevirtual 227, 3) := by decide +kernel
theorem dX6_runsAlike_21 : decode cX6_runsAlike 21 = .ok (.ifCond .eq 32, 3) := by decide +kernel
theorem dX6_runsAlike_24 : decode cX6_runsAlike 24 = .ok (.aload_n 2, 1) := by decide +kernel
theorem dX6_runsAlike_25 : decode cX6_runsAlike 25 = .ok (.getfield 143, 3) := by decide +kernel
theorem dX6_runsAlike_28 : decode cX6_runsAlike 28 = .ok (.aload_n 3, 1) := by decide +kernel
theorem dX6_runsAlike_29 : decode cX6_runsAlike 29 = .ok (.getfield 143, 3) := by decide +kernel
theorem dX6_runsAlike_32 : decode cX6_runsAlike 32 = .ok (.if_icmp .ne 21, 3) := by decide +kernel
theorem dX6_runsAlike_35 : decode cX6_runsAlike 35 = .ok (.aload_n 1, 1) := by decide +kernel
theorem dX6_runsAlike_36 : decode cX6_runsAlike 36 = .ok (.aload_n 2, 1) := by decide +kernel
theorem dX6_runsAlike_37 : decode cX6_runsAlike 37 = .ok (.aload_n 3, 1) := by decide +kernel
theorem dX6_runsAlike_38 : decode cX6_runsAlike 38 = .ok (.iconst 0, 1) := by decide +kernel
theorem dX6_runsAlike_39 : decode cX6_runsAlike 39 = .ok (.aload_n 2, 1) := by decide +kernel
theorem dX6_runsAlike_40 : decode cX6_runsAlike 40 = .ok (.getfield 143, 3) := by decide +kernel
theorem dX6_runsAlike_43 : decode cX6_runsAlike 43 = .ok (.invokevirtual 231, 3) := by decide +kernel
theorem dX6_runsAlike_46 : decode cX6_runsAlike 46 = .ok (.ifCond .eq 7, 3) := by decide +kernel
theorem dX6_runsAlike_49 : decode cX6_runsAlike 49 = .ok (.iconst 1, 1) := by decide +kernel
theorem dX6_runsAlike_50 : decode cX6_runsAlike 50 = .ok (.goto 4, 3) := by decide +kernel
theorem dX6_runsAlike_53 : decode cX6_runsAlike 53 = .ok (.iconst 0, 1) := by decide +kernel
theorem dX6_runsAlike_54 : decode cX6_runsAlike 54 = .ok (.ireturn, 1) := by decide +kernel
theorem ggX6_stillAlike_X3_takeNames : GoodIn wsX6_stillAlike wsX3_takeNames := goodIn_mem (fun _ h => List.mem_cons_of_mem _ (List.mem_append_left _ (List.mem_append_left _ (List.mem_append_left _ (List.mem_append_left _ (List.mem_append_right _ (List.mem_append_left _ h))))))) ok_wsX3_takeNames
set_option maxRecDepth 20000 in
theorem gX6_stillAlike_X3_takeNames : GoodIn wsX6_stillAlike (wsV RX6 235 RX3 yX3_takeNames wsX3_takeNames) := goodIn_app (goodIn_of _ (by decide +kernel)) ggX6_stillAlike_X3_takeNames
theorem ggX6_stillAlike_X6_runsAlike : GoodIn wsX6_stillAlike wsX6_runsAlike := goodIn_mem (fun _ h => List.mem_cons_of_mem _ (List.mem_append_left _ (List.mem_append_left _ (List.mem_append_left _ (List.mem_append_left _ (List.mem_append_right _ (List.mem_append_right _ h))))))) ok_wsX6_runsAlike
set_option maxRecDepth 20000 in
theorem gX6_stillAlike_X6_runsAlike : GoodIn wsX6_stillAlike (wsV RX6 223 RX6 yX6_runsAlike wsX6_runsAlike) := goodIn_app (goodIn_of _ (by decide +kernel)) ggX6_stillAlike_X6_runsAlike
theorem dX6_stillAlike_0 : decode cX6_stillAlike 0 = .ok (.iload_n 2, 1) := by decide +kernel
theorem dX6_stillAlike_1 : decode cX6_stillAlike 1 = .ok (.ifCond .eq 7, 3) := by decide +kernel
theorem dX6_stillAlike_4 : decode cX6_stillAlike 4 = .ok (.iload_n 1, 1) := by decide +kernel
theorem dX6_stillAlike_5 : decode cX6_stillAlike 5 = .ok (.goto 4, 3) := by decide +kernel
theorem dX6_stillAlike_8 : decode cX6_stillAlike 8 = .ok (.iconst 0, 1) := by decide +kernel
theorem dX6_stillAlike_9 : decode cX6_stillAlike 9 = .ok (.istore_n 3, 1) := by decide +kernel
theorem dX6_stillAlike_10 : decode cX6_stillAlike 10 = .ok (.iconst 0, 1) := by decide +kernel
theorem dX6_stillAlike_11 : decode cX6_stillAlike 11 = .ok (.istore 4, 2) := by decide +kernel
theorem dX6_stillAlike_13 : decode cX6_stillAlike 13 = .ok (.iload 4, 2) := by decide +kernel
theorem dX6_stillAlike_15 : decode cX6_stillAlike 15 = .ok (.getstatic 188, 3) := by decide +kernel
theorem dX6_stillAlike_18 : decode cX6_stillAlike 18 = .ok (.arraylength, 1) := by decide +kernel
theorem dX6_stillAlike_19 : decode cX6_stillAlike 19 = .ok (.if_icmp .ge 51, 3) := by decide +kernel
theorem dX6_stillAlike_22 : decode cX6_stillAlike 22 = .ok (.iload_n 3, 1) := by decide +kernel
theorem dX6_stillAlike_23 : decode cX6_stillAlike 23 = .ok (.iconst 1, 1) := by decide +kernel
theorem dX6_stillAlike_24 : decode cX6_stillAlike 24 = .ok (.iload 4, 2) := by decide +kernel
theorem dX6_stillAlike_26 : decode cX6_stillAlike 26 = .ok (.ishl, 1) := by decide +kernel
theorem dX6_stillAlike_27 : decode cX6_stillAlike 27 = .ok (.iand, 1) := by decide +kernel
theorem dX6_stillAlike_28 : decode cX6_stillAlike 28 = .ok (.ifCond .eq 36, 3) := by decide +kernel
theorem dX6_stillAlike_31 : decode cX6_stillAlike 31 = .ok (.aload_n 0, 1) := by decide +kernel
theorem dX6_stillAlike_32 : decode cX6_stillAlike 32 = .ok (.getfield 26, 3) := by decide +kernel
theorem dX6_stillAlike_35 : decode cX6_stillAlike 35 = .ok (.getstatic 188, 3) := by decide +kernel
theorem dX6_stillAlike_38 : decode cX6_stillAlike 38 = .ok (.iload 4, 2) := by decide +kernel
theorem dX6_stillAlike_40 : decode cX6_stillAlike 40 = .ok (.iaload, 1) := by decide +kernel
theorem dX6_stillAlike_41 : decode cX6_stillAlike 41 = .ok (.invokevirtual 235, 3) := by decide +kernel
theorem dX6_stillAlike_44 : decode cX6_stillAlike 44 = .ok (.aload_n 0, 1) := by decide +kernel
theorem dX6_stillAlike_45 : decode cX6_stillAlike 45 = .ok (.aload_n 0, 1) := by decide +kernel
theorem dX6_stillAlike_46 : decode cX6_stillAlike 46 = .ok (.getfield 26, 3) := by decide +kernel
theorem dX6_stillAlike_49 : decode cX6_stillAlike 49 = .ok (.invokevirtual 223, 3) := by decide +kernel
theorem dX6_stillAlike_52 : decode cX6_stillAlike 52 = .ok (.ifCond .ne 12, 3) := by decide +kernel
theorem dX6_stillAlike_55 : decode cX6_stillAlike 55 = .ok (.iload_n 3, 1) := by decide +kernel
theorem dX6_stillAlike_56 : decode cX6_stillAlike 56 = .ok (.iconst 1, 1) := by decide +kernel
theorem dX6_stillAlike_57 : decode cX6_stillAlike 57 = .ok (.iload 4, 2) := by decide +kernel
theorem dX6_stillAlike_59 : decode cX6_stillAlike 59 = .ok (.ishl, 1) := by decide +kernel
theorem dX6_stillAlike_60 : decode cX6_stillAlike 60 = .ok (.iconst (-1), 1) := by decide +kernel
theorem dX6_stillAlike_61 : decode cX6_stillAlike 61 = .ok (.ixor, 1) := by decide +kernel
theorem dX6_stillAlike_62 : decode cX6_stillAlike 62 = .ok (.iand, 1) := by decide +kernel
theorem dX6_stillAlike_63 : decode cX6_stillAlike 63 = .ok (.istore_n 3, 1) := by decide +kernel
theorem dX6_stillAlike_64 : decode cX6_stillAlike 64 = .ok (.iinc 4 1, 3) := by decide +kernel
theorem dX6_stillAlike_67 : decode cX6_stillAlike 67 = .ok (.goto (-54), 3) := by decide +kernel
theorem dX6_stillAlike_70 : decode cX6_stillAlike 70 = .ok (.iload_n 3, 1) := by decide +kernel
theorem dX6_stillAlike_71 : decode cX6_stillAlike 71 = .ok (.ireturn, 1) := by decide +kernel
theorem ggX6_proveInputs_X1_takeAnswers : GoodIn wsX6_proveInputs wsX1_takeAnswers := goodIn_mem (fun _ h => List.mem_cons_of_mem _ (List.mem_append_left _ (List.mem_append_left _ (List.mem_append_left _ (List.mem_append_left _ (List.mem_append_left _ (List.mem_append_left _ (List.mem_append_left _ (List.mem_append_right _ (List.mem_append_right _ (List.mem_append_left _ h))))))))))) ok_wsX1_takeAnswers
set_option maxRecDepth 20000 in
theorem gX6_proveInputs_X1_takeAnswers : GoodIn wsX6_proveInputs (wsV RX6 238 RX1 yX1_takeAnswers wsX1_takeAnswers) := goodIn_app (goodIn_of _ (by decide +kernel)) ggX6_proveInputs_X1_takeAnswers
theorem ggX6_proveInputs_X1_go : GoodIn wsX6_proveInputs wsX1_go := goodIn_mem (fun _ h => List.mem_cons_of_mem _ (List.mem_append_left _ (List.mem_append_left _ (List.mem_append_left _ (List.mem_append_left _ (List.mem_append_left _ (List.mem_append_left _ (List.mem_append_left _ (List.mem_append_right _ (List.mem_append_right _ (List.mem_append_right _ (List.mem_append_left _ h)))))))))))) ok_wsX1_go
set_option maxRecDepth 20000 in
theorem gX6_proveInputs_X1_go : GoodIn wsX6_proveInputs (wsV RX6 121 RX1 yX1_go wsX1_go) := goodIn_app (goodIn_of _ (by decide +kernel)) ggX6_proveInputs_X1_go
theorem ggX6_proveInputs_X6_walksAnswer : GoodIn wsX6_proveInputs wsX6_walksAnswer := goodIn_mem (fun _ h => List.mem_cons_of_mem _ (List.mem_append_left _ (List.mem_append_left _ (List.mem_append_left _ (List.mem_append_left _ (List.mem_append_left _ (List.mem_append_left _ (List.mem_append_left _ (List.mem_append_right _ (List.mem_append_right _ (List.mem_append_right _ (List.mem_append_right _ (List.mem_append_left _ h))))))))))))) ok_wsX6_walksAnswer
set_option maxRecDepth 20000 in
theorem gX6_proveInputs_X6_walksAnswer : GoodIn wsX6_proveInputs (wsV RX6 248 RX6 yX6_walksAnswer wsX6_walksAnswer) := goodIn_app (goodIn_of _ (by decide +kernel)) ggX6_proveInputs_X6_walksAnswer
theorem ggX6_proveInputs_X4_yieldsTo : GoodIn wsX6_proveInputs wsX4_yieldsTo := goodIn_mem (fun _ h => List.mem_cons_of_mem _ (List.mem_append_left _ (List.mem_append_left _ (List.mem_append_left _ (List.mem_append_left _ (List.mem_append_left _ (List.mem_append_left _ (List.mem_append_left _ (List.mem_append_right _ (List.mem_append_right _ (List.mem_append_right _ (List.mem_append_right _ (List.mem_append_right _ (List.mem_append_left _ h)))))))))))))) ok_wsX4_yieldsTo
set_option maxRecDepth 20000 in
theorem gX6_proveInputs_X4_yieldsTo : GoodIn wsX6_proveInputs (wsV RX6 251 RX4 yX4_yieldsTo wsX4_yieldsTo) := goodIn_app (goodIn_of _ (by decide +kernel)) ggX6_proveInputs_X4_yieldsTo
theorem ggX6_proveInputs_X4_keep : GoodIn wsX6_proveInputs wsX4_keep := goodIn_mem (fun _ h => List.mem_cons_of_mem _ (List.mem_append_left _ (List.mem_append_left _ (List.mem_append_left _ (List.mem_append_left _ (List.mem_append_left _ (List.mem_append_left _ (List.mem_append_left _ (List.mem_append_right _ (List.mem_append_right _ (List.mem_append_right _ (List.mem_append_right _ (List.mem_append_right _ (List.mem_append_right _ h)))))))))))))) ok_wsX4_keep
set_option maxRecDepth 20000 in
theorem gX6_proveInputs_X4_keep : GoodIn wsX6_proveInputs (wsV RX6 254 RX4 yX4_keep wsX4_keep) := goodIn_app (goodIn_of _ (by decide +kernel)) ggX6_proveInputs_X4_keep
theorem dX6_proveInputs_0 : decode cX6_proveInputs 0 = .ok (.iconst 2, 1) := by decide +kernel
theorem dX6_proveInputs_1 : decode cX6_proveInputs 1 = .ok (.istore 4, 2) := by decide +kernel
theorem dX6_proveInputs_3 : decode cX6_proveInputs 3 = .ok (.iconst 0, 1) := by decide +kernel
theorem dX6_proveInputs_4 : decode cX6_proveInputs 4 = .ok (.istore 5, 2) := by decide +kernel
theorem dX6_proveInputs_6 : decode cX6_proveInputs 6 = .ok (.iload 5, 2) := by decide +kernel
theorem dX6_proveInputs_8 : decode cX6_proveInputs 8 = .ok (.aload_n 0, 1) := by decide +kernel
theorem dX6_proveInputs_9 : decode cX6_proveInputs 9 = .ok (.getfield 59, 3) := by decide +kernel
theorem dX6_proveInputs_12 : decode cX6_proveInputs 12 = .ok (.iconst 1, 1) := by decide +kernel
theorem dX6_proveInputs_13 : decode cX6_proveInputs 13 = .ok (.iadd, 1) := by decide +kernel
theorem dX6_proveInputs_14 : decode cX6_proveInputs 14 = .ok (.if_icmp .gt 166, 3) := by decide +kernel
theorem dX6_proveInputs_17 : decode cX6_proveInputs 17 = .ok (.iload 4, 2) := by decide +kernel
theorem dX6_proveInputs_19 : decode cX6_proveInputs 19 = .ok (.ifCond .le 161, 3) := by decide +kernel
theorem dX6_proveInputs_22 : decode cX6_proveInputs 22 = .ok (.iconst 2, 1) := by decide +kernel
theorem dX6_proveInputs_23 : decode cX6_proveInputs 23 = .ok (.istore 4, 2) := by decide +kernel
theorem dX6_proveInputs_25 : decode cX6_proveInputs 25 = .ok (.iconst 0, 1) := by decide +kernel
theorem dX6_proveInputs_26 : decode cX6_proveInputs 26 = .ok (.istore 6, 2) := by decide +kernel
theorem dX6_proveInputs_28 : decode cX6_proveInputs 28 = .ok (.iload 6, 2) := by decide +kernel
theorem dX6_proveInputs_30 : decode cX6_proveInputs 30 = .ok (.aload_n 0, 1) := by decide +kernel
theorem dX6_proveInputs_31 : decode cX6_proveInputs 31 = .ok (.getfield 59, 3) := by decide +kernel
theorem dX6_proveInputs_34 : decode cX6_proveInputs 34 = .ok (.iconst 1, 1) := by decide +kernel
theorem dX6_proveInputs_35 : decode cX6_proveInputs 35 = .ok (.iadd, 1) := by decide +kernel
theorem dX6_proveInputs_36 : decode cX6_proveInputs 36 = .ok (.if_icmp .gt 138, 3) := by decide +kernel
theorem dX6_proveInputs_39 : decode cX6_proveInputs 39 = .ok (.iload 4, 2) := by decide +kernel
theorem dX6_proveInputs_41 : decode cX6_proveInputs 41 = .ok (.iconst 1, 1) := by decide +kernel
theorem dX6_proveInputs_42 : decode cX6_proveInputs 42 = .ok (.if_icmp .le 132, 3) := by decide +kernel
theorem dX6_proveInputs_45 : decode cX6_proveInputs 45 = .ok (.aload_n 0, 1) := by decide +kernel
theorem dX6_proveInputs_46 : decode cX6_proveInputs 46 = .ok (.getfield 77, 3) := by decide +kernel
theorem dX6_proveInputs_49 : decode cX6_proveInputs 49 = .ok (.iload 5, 2) := by decide +kernel
theorem dX6_proveInputs_51 : decode cX6_proveInputs 51 = .ok (.iload 6, 2) := by decide +kernel
theorem dX6_proveInputs_53 : decode cX6_proveInputs 53 = .ok (.invokevirtual 238, 3) := by decide +kernel
theorem dX6_proveInputs_56 : decode cX6_proveInputs 56 = .ok (.aload_n 0, 1) := by decide +kernel
theorem dX6_proveInputs_57 : decode cX6_proveInputs 57 = .ok (.getfield 80, 3) := by decide +kernel
theorem dX6_proveInputs_60 : decode cX6_proveInputs 60 = .ok (.iload 5, 2) := by decide +kernel
theorem dX6_proveInputs_62 : decode cX6_proveInputs 62 = .ok (.iload 6, 2) := by decide +kernel
theorem dX6_proveInputs_64 : decode cX6_proveInputs 64 = .ok (.invokevirtual 238, 3) := by decide +kernel
theorem dX6_proveInputs_67 : decode cX6_proveInputs 67 = .ok (.aload_n 0, 1) := by decide +kernel
theorem dX6_proveInputs_68 : decode cX6_proveInputs 68 = .ok (.getfield 77, 3) := by decide +kernel
theorem dX6_proveInputs_71 : decode cX6_proveInputs 71 = .ok (.aload_n 0, 1) := by decide +kernel
theorem dX6_proveInputs_72 : decode cX6_proveInputs 72 = .ok (.getfield 32, 3) := by decide +kernel
theorem dX6_proveInputs_75 : decode cX6_proveInputs 75 = .ok (.getfield 242, 3) := by decide +kernel
theorem dX6_proveInputs_78 : decode cX6_proveInputs 78 = .ok (.iload_n 1, 1) := by decide +kernel
theorem dX6_proveInputs_79 : decode cX6_proveInputs 79 = .ok (.iaload, 1) := by decide +kernel
theorem dX6_proveInputs_80 : decode cX6_proveInputs 80 = .ok (.iload_n 2, 1) := by decide +kernel
theorem dX6_proveInputs_81 : decode cX6_proveInputs 81 = .ok (.iload_n 3, 1) := by decide +kernel
theorem dX6_proveInputs_82 : decode cX6_proveInputs 82 = .ok (.invokevirtual 121, 3) := by decide +kernel
theorem dX6_proveInputs_85 : decode cX6_proveInputs 85 = .ok (.aload_n 0, 1) := by decide +kernel
theorem dX6_proveInputs_86 : decode cX6_proveInputs 86 = .ok (.getfield 80, 3) := by decide +kernel
theorem dX6_proveInputs_89 : decode cX6_proveInputs 89 = .ok (.aload_n 0, 1) := by decide +kernel
theorem dX6_proveInputs_90 : decode cX6_proveInputs 90 = .ok (.getfield 32, 3) := by decide +kernel
theorem dX6_proveInputs_93 : decode cX6_proveInputs 93 = .ok (.getfield 245, 3) := by decide +kernel
theorem dX6_proveInputs_96 : decode cX6_proveInputs 96 = .ok (.iload_n 1, 1) := by decide +kernel
theorem dX6_proveInputs_97 : decode cX6_proveInputs 97 = .ok (.iaload, 1) := by decide +kernel
theorem dX6_proveInputs_98 : decode cX6_proveInputs 98 = .ok (.iload_n 2, 1) := by decide +kernel
theorem dX6_proveInputs_99 : decode cX6_proveInputs 99 = .ok (.iload_n 3, 1) := by decide +kernel
theorem dX6_proveInputs_100 : decode cX6_proveInputs 100 = .ok (.invokevirtual 121, 3) := by decide +kernel
theorem dX6_proveInputs_103 : decode cX6_proveInputs 103 = .ok (.aload_n 0, 1) := by decide +kernel
theorem dX6_proveInputs_104 : decode cX6_proveInputs 104 = .ok (.invokevirtual 248, 3) := by decide +kernel
theorem dX6_proveInputs_107 : decode cX6_proveInputs 107 = .ok (.istore 7, 2) := by decide +kernel
theorem dX6_proveInputs_109 : decode cX6_proveInputs 109 = .ok (.aload_n 0, 1) := by decide +kernel
theorem dX6_proveInputs_110 : decode cX6_proveInputs 110 = .ok (.getfield 39, 3) := by decide +kernel
theorem dX6_proveInputs_113 : decode cX6_proveInputs 113 = .ok (.iload 7, 2) := by decide +kernel
theorem dX6_proveInputs_115 : decode cX6_proveInputs 115 = .ok (.invokevirtual 251, 3) := by decide +kernel
theorem dX6_proveInputs_118 : decode cX6_proveInputs 118 = .ok (.ifCond .eq 19, 3) := by decide +kernel
theorem dX6_proveInputs_121 : decode cX6_proveInputs 121 = .ok (.aload_n 0, 1) := by decide +kernel
theorem dX6_proveInputs_122 : decode cX6_proveInputs 122 = .ok (.getfield 39, 3) := by decide +kernel
theorem dX6_proveInputs_125 : decode cX6_proveInputs 125 = .ok (.iload 7, 2) := by decide +kernel
theorem dX6_proveInputs_127 : decode cX6_proveInputs 127 = .ok (.iload_n 1, 1) := by decide +kernel
theorem dX6_proveInputs_128 : decode cX6_proveInputs 128 = .ok (.iload_n 2, 1) := by decide +kernel
theorem dX6_proveInputs_129 : decode cX6_proveInputs 129 = .ok (.iload_n 3, 1) := by decide +kernel
theorem dX6_proveInputs_130 : decode cX6_proveInputs 130 = .ok (.iload 5, 2) := by decide +kernel
theorem dX6_proveInputs_132 : decode cX6_proveInputs 132 = .ok (.iload 6, 2) := by decide +kernel
theorem dX6_proveInputs_134 : decode cX6_proveInputs 134 = .ok (.invokevirtual 254, 3) := by decide +kernel
theorem dX6_proveInputs_137 : decode cX6_proveInputs 137 = .ok (.iload 7, 2) := by decide +kernel
theorem dX6_proveInputs_139 : decode cX6_proveInputs 139 = .ok (.ifCond .ne 4, 3) := by decide +kernel
theorem dX6_proveInputs_142 : decode cX6_proveInputs 142 = .ok (.return_, 1) := by decide +kernel
theorem dX6_proveInputs_143 : decode cX6_proveInputs 143 = .ok (.aload_n 0, 1) := by decide +kernel
theorem dX6_proveInputs_144 : decode cX6_proveInputs 144 = .ok (.getfield 77, 3) := by decide +kernel
theorem dX6_proveInputs_147 : decode cX6_proveInputs 147 = .ok (.getfield 125, 3) := by decide +kernel
theorem dX6_proveInputs_150 : decode cX6_proveInputs 150 = .ok (.getfield 258, 3) := by decide +kernel
theorem dX6_proveInputs_153 : decode cX6_proveInputs 153 = .ok (.aload_n 0, 1) := by decide +kernel
theorem dX6_proveInputs_154 : decode cX6_proveInputs 154 = .ok (.getfield 80, 3) := by decide +kernel
theorem dX6_proveInputs_157 : decode cX6_proveInputs 157 = .ok (.getfield 125, 3) := by decide +kernel
theorem dX6_proveInputs_160 : decode cX6_proveInputs 160 = .ok (.getfield 258, 3) := by decide +kernel
theorem dX6_proveInputs_163 : decode cX6_proveInputs 163 = .ok (.invokestatic 261, 3) := by decide +kernel
theorem dX6_proveInputs_166 : decode cX6_proveInputs 166 = .ok (.istore 4, 2) := by decide +kernel
theorem dX6_proveInputs_168 : decode cX6_proveInputs 168 = .ok (.iinc 6 1, 3) := by decide +kernel
theorem dX6_proveInputs_171 : decode cX6_proveInputs 171 = .ok (.goto (-143), 3) := by decide +kernel
theorem dX6_proveInputs_174 : decode cX6_proveInputs 174 = .ok (.iinc 5 1, 3) := by decide +kernel
theorem dX6_proveInputs_177 : decode cX6_proveInputs 177 = .ok (.goto (-171), 3) := by decide +kernel
theorem dX6_proveInputs_180 : decode cX6_proveInputs 180 = .ok (.return_, 1) := by decide +kernel
theorem ggX6_walksAnswer_X5_endsLike : GoodIn wsX6_walksAnswer wsX5_endsLike := goodIn_mem (fun _ h => List.mem_cons_of_mem _ (List.mem_append_left _ (List.mem_append_left _ (List.mem_append_left _ (List.mem_append_left _ (List.mem_append_left _ (List.mem_append_right _ (List.mem_append_left _ h)))))))) ok_wsX5_endsLike
set_option maxRecDepth 20000 in
theorem gX6_walksAnswer_X5_endsLike : GoodIn wsX6_walksAnswer (wsV RX6 227 RX5 yX5_endsLike wsX5_endsLike) := goodIn_app (goodIn_of _ (by decide +kernel)) ggX6_walksAnswer_X5_endsLike
theorem ggX6_walksAnswer_X6_callingsAlike : GoodIn wsX6_walksAnswer wsX6_callingsAlike := goodIn_mem (fun _ h => List.mem_cons_of_mem _ (List.mem_append_left _ (List.mem_append_left _ (List.mem_append_left _ (List.mem_append_left _ (List.mem_append_left _ (List.mem_append_right _ (List.mem_append_right _ h)))))))) ok_wsX6_callingsAlike
set_option maxRecDepth 20000 in
theorem gX6_walksAnswer_X6_callingsAlike : GoodIn wsX6_walksAnswer (wsV RX6 266 RX6 yX6_callingsAlike wsX6_callingsAlike) := goodIn_app (goodIn_of _ (by decide +kernel)) ggX6_walksAnswer_X6_callingsAlike
theorem dX6_walksAnswer_0 : decode cX6_walksAnswer 0 = .ok (.aload_n 0, 1) := by decide +kernel
theorem dX6_walksAnswer_1 : decode cX6_walksAnswer 1 = .ok (.getfield 77, 3) := by decide +kernel
theorem dX6_walksAnswer_4 : decode cX6_walksAnswer 4 = .ok (.getfield 125, 3) := by decide +kernel
theorem dX6_walksAnswer_7 : decode cX6_walksAnswer 7 = .ok (.astore_n 1, 1) := by decide +kernel
theorem dX6_walksAnswer_8 : decode cX6_walksAnswer 8 = .ok (.aload_n 0, 1) := by decide +kernel
theorem dX6_walksAnswer_9 : decode cX6_walksAnswer 9 = .ok (.getfield 80, 3) := by decide +kernel
theorem dX6_walksAnswer_12 : decode cX6_walksAnswer 12 = .ok (.getfield 125, 3) := by decide +kernel
theorem dX6_walksAnswer_15 : decode cX6_walksAnswer 15 = .ok (.astore_n 2, 1) := by decide +kernel
theorem dX6_walksAnswer_16 : decode cX6_walksAnswer 16 = .ok (.aload_n 1, 1) := by decide +kernel
theorem dX6_walksAnswer_17 : decode cX6_walksAnswer 17 = .ok (.getfield 129, 3) := by decide +kernel
theorem dX6_walksAnswer_20 : decode cX6_walksAnswer 20 = .ok (.iconst 2, 1) := by decide +kernel
theorem dX6_walksAnswer_21 : decode cX6_walksAnswer 21 = .ok (.if_icmp .eq 11, 3) := by decide +kernel
theorem dX6_walksAnswer_24 : decode cX6_walksAnswer 24 = .ok (.aload_n 2, 1) := by decide +kernel
theorem dX6_walksAnswer_25 : decode cX6_walksAnswer 25 = .ok (.getfield 129, 3) := by decide +kernel
theorem dX6_walksAnswer_28 : decode cX6_walksAnswer 28 = .ok (.iconst 2, 1) := by decide +kernel
theorem dX6_walksAnswer_29 : decode cX6_walksAnswer 29 = .ok (.if_icmp .ne 5, 3) := by decide +kernel
theorem dX6_walksAnswer_32 : decode cX6_walksAnswer 32 = .ok (.iconst 2, 1) := by decide +kernel
theorem dX6_walksAnswer_33 : decode cX6_walksAnswer 33 = .ok (.ireturn, 1) := by decide +kernel
theorem dX6_walksAnswer_34 : decode cX6_walksAnswer 34 = .ok (.aload_n 1, 1) := by decide +kernel
theorem dX6_walksAnswer_35 : decode cX6_walksAnswer 35 = .ok (.aload_n 2, 1) := by decide +kernel
theorem dX6_walksAnswer_36 : decode cX6_walksAnswer 36 = .ok (.invokevirtual 227, 3) := by decide +kernel
theorem dX6_walksAnswer_39 : decode cX6_walksAnswer 39 = .ok (.ifCond .eq 16, 3) := by decide +kernel
theorem dX6_walksAnswer_42 : decode cX6_walksAnswer 42 = .ok (.aload_n 0, 1) := by decide +kernel
theorem dX6_walksAnswer_43 : decode cX6_walksAnswer 43 = .ok (.aload_n 1, 1) := by decide +kernel
theorem dX6_walksAnswer_44 : decode cX6_walksAnswer 44 = .ok (.aload_n 2, 1) := by decide +kernel
theorem dX6_walksAnswer_45 : decode cX6_walksAnswer 45 = .ok (.invokevirtual 266, 3) := by decide +kernel
theorem dX6_walksAnswer_48 : decode cX6_walksAnswer 48 = .ok (.ifCond .eq 7, 3) := by decide +kernel
theorem dX6_walksAnswer_51 : decode cX6_walksAnswer 51 = .ok (.iconst 1, 1) := by decide +kernel
theorem dX6_walksAnswer_52 : decode cX6_walksAnswer 52 = .ok (.goto 4, 3) := by decide +kernel
theorem dX6_walksAnswer_55 : decode cX6_walksAnswer 55 = .ok (.iconst 0, 1) := by decide +kernel
theorem dX6_walksAnswer_56 : decode cX6_walksAnswer 56 = .ok (.ireturn, 1) := by decide +kernel
theorem ggX6_callingsAlike_X5_sameCalling : GoodIn wsX6_callingsAlike wsX5_sameCalling := goodIn_mem (fun _ h => List.mem_cons_of_mem _ (List.mem_append_left _ (List.mem_append_left _ (List.mem_append_left _ (List.mem_append_left _ (List.mem_append_right _ (List.mem_append_left _ h))))))) ok_wsX5_sameCalling
set_option maxRecDepth 20000 in
theorem gX6_callingsAlike_X5_sameCalling : GoodIn wsX6_callingsAlike (wsV RX6 273 RX5 yX5_sameCalling wsX5_sameCalling) := goodIn_app (goodIn_of _ (by decide +kernel)) ggX6_callingsAlike_X5_sameCalling
theorem ggX6_callingsAlike_X2_has : GoodIn wsX6_callingsAlike wsX2_has := goodIn_mem (fun _ h => List.mem_cons_of_mem _ (List.mem_append_left _ (List.mem_append_left _ (List.mem_append_left _ (List.mem_append_left _ (List.mem_append_right _ (List.mem_append_right _ (List.mem_append_left _ h)))))))) ok_wsX2_has
set_option maxRecDepth 20000 in
theorem gX6_callingsAlike_X2_has : GoodIn wsX6_callingsAlike (wsV RX6 196 RX2 yX2_has wsX2_has) := goodIn_app (goodIn_of _ (by decide +kernel)) ggX6_callingsAlike_X2_has
theorem ggX6_callingsAlike_X3_alike : GoodIn wsX6_callingsAlike wsX3_alike := goodIn_mem (fun _ h => List.mem_cons_of_mem _ (List.mem_append_left _ (List.mem_append_left _ (List.mem_append_left _ (List.mem_append_left _ (List.mem_append_right _ (List.mem_append_right _ (List.mem_append_right _ h)))))))) ok_wsX3_alike
set_option maxRecDepth 20000 in
theorem gX6_callingsAlike_X3_alike : GoodIn wsX6_callingsAlike (wsV RX6 231 RX3 yX3_alike wsX3_alike) := goodIn_app (goodIn_of _ (by decide +kernel)) ggX6_callingsAlike_X3_alike
theorem dX6_callingsAlike_0 : decode cX6_callingsAlike 0 = .ok (.aload_n 1, 1) := by decide +kernel
theorem dX6_callingsAlike_1 : decode cX6_callingsAlike 1 = .ok (.getfield 258, 3) := by decide +kernel
theorem dX6_callingsAlike_4 : decode cX6_callingsAlike 4 = .ok (.aload_n 2, 1) := by decide +kernel
theorem dX6_callingsAlike_5 : decode cX6_callingsAlike 5 = .ok (.getfield 258, 3) := by decide +kernel
theorem dX6_callingsAlike_8 : decode cX6_callingsAlike 8 = .ok (.if_icmp .eq 5, 3) := by decide +kernel
theorem dX6_callingsAlike_11 : decode cX6_callingsAlike 11 = .ok (.iconst 0, 1) := by decide +kernel
theorem dX6_callingsAlike_12 : decode cX6_callingsAlike 12 = .ok (.ireturn, 1) := by decide +kernel
theorem dX6_callingsAlike_13 : decode cX6_callingsAlike 13 = .ok (.iconst 0, 1) := by decide +kernel
theorem dX6_callingsAlike_14 : decode cX6_callingsAlike 14 = .ok (.istore_n 3, 1) := by decide +kernel
theorem dX6_callingsAlike_15 : decode cX6_callingsAlike 15 = .ok (.iconst 0, 1) := by decide +kernel
theorem dX6_callingsAlike_16 : decode cX6_callingsAlike 16 = .ok (.istore 4, 2) := by decide +kernel
theorem dX6_callingsAlike_18 : decode cX6_callingsAlike 18 = .ok (.iload 4, 2) := by decide +kernel
theorem dX6_callingsAlike_20 : decode cX6_callingsAlike 20 = .ok (.aload_n 1, 1) := by decide +kernel
theorem dX6_callingsAlike_21 : decode cX6_callingsAlike 21 = .ok (.getfield 258, 3) := by decide +kernel
theorem dX6_callingsAlike_24 : decode cX6_callingsAlike 24 = .ok (.if_icmp .ge 72, 3) := by decide +kernel
theorem dX6_callingsAlike_27 : decode cX6_callingsAlike 27 = .ok (.aload_n 1, 1) := by decide +kernel
theorem dX6_callingsAlike_28 : decode cX6_callingsAlike 28 = .ok (.getfield 270, 3) := by decide +kernel
theorem dX6_callingsAlike_31 : decode cX6_callingsAlike 31 = .ok (.iload 4, 2) := by decide +kernel
theorem dX6_callingsAlike_33 : decode cX6_callingsAlike 33 = .ok (.iaload, 1) := by decide +kernel
theorem dX6_callingsAlike_34 : decode cX6_callingsAlike 34 = .ok (.istore 5, 2) := by decide +kernel
theorem dX6_callingsAlike_36 : decode cX6_callingsAlike 36 = .ok (.aload_n 1, 1) := by decide +kernel
theorem dX6_callingsAlike_37 : decode cX6_callingsAlike 37 = .ok (.aload_n 2, 1) := by decide +kernel
theorem dX6_callingsAlike_38 : decode cX6_callingsAlike 38 = .ok (.iload 4, 2) := by decide +kernel
theorem dX6_callingsAlike_40 : decode cX6_callingsAlike 40 = .ok (.invokevirtual 273, 3) := by decide +kernel
theorem dX6_callingsAlike_43 : decode cX6_callingsAlike 43 = .ok (.ifCond .eq 42, 3) := by decide +kernel
theorem dX6_callingsAlike_46 : decode cX6_callingsAlike 46 = .ok (.aload_n 0, 1) := by decide +kernel
theorem dX6_callingsAlike_47 : decode cX6_callingsAlike 47 = .ok (.getfield 32, 3) := by decide +kernel
theorem dX6_callingsAlike_50 : decode cX6_callingsAlike 50 = .ok (.aload_n 1, 1) := by decide +kernel
theorem dX6_callingsAlike_51 : decode cX6_callingsAlike 51 = .ok (.getfield 277, 3) := by decide +kernel
theorem dX6_callingsAlike_54 : decode cX6_callingsAlike 54 = .ok (.iload 4, 2) := by decide +kernel
theorem dX6_callingsAlike_56 : decode cX6_callingsAlike 56 = .ok (.iaload, 1) := by decide +kernel
theorem dX6_callingsAlike_57 : decode cX6_callingsAlike 57 = .ok (.aload_n 2, 1) := by decide +kernel
theorem dX6_callingsAlike_58 : decode cX6_callingsAlike 58 = .ok (.getfield 277, 3) := by decide +kernel
theorem dX6_callingsAlike_61 : decode cX6_callingsAlike 61 = .ok (.iload 4, 2) := by decide +kernel
theorem dX6_callingsAlike_63 : decode cX6_callingsAlike 63 = .ok (.iaload, 1) := by decide +kernel
theorem dX6_callingsAlike_64 : decode cX6_callingsAlike 64 = .ok (.invokevirtual 196, 3) := by decide +kernel
theorem dX6_callingsAlike_67 : decode cX6_callingsAlike 67 = .ok (.ifCond .eq 18, 3) := by decide +kernel
theorem dX6_callingsAlike_70 : decode cX6_callingsAlike 70 = .ok (.aload_n 0, 1) := by decide +kernel
theorem dX6_callingsAlike_71 : decode cX6_callingsAlike 71 = .ok (.getfield 22, 3) := by decide +kernel
theorem dX6_callingsAlike_74 : decode cX6_callingsAlike 74 = .ok (.aload_n 1, 1) := by decide +kernel
theorem dX6_callingsAlike_75 : decode cX6_callingsAlike 75 = .ok (.aload_n 2, 1) := by decide +kernel
theorem dX6_callingsAlike_76 : decode cX6_callingsAlike 76 = .ok (.iload_n 3, 1) := by decide +kernel
theorem dX6_callingsAlike_77 : decode cX6_callingsAlike 77 = .ok (.iload 5, 2) := by decide +kernel
theorem dX6_callingsAlike_79 : decode cX6_callingsAlike 79 = .ok (.invokevirtual 231, 3) := by decide +kernel
theorem dX6_callingsAlike_82 : decode cX6_callingsAlike 82 = .ok (.ifCond .ne 5, 3) := by decide +kernel
theorem dX6_callingsAlike_85 : decode cX6_callingsAlike 85 = .ok (.iconst 0, 1) := by decide +kernel
theorem dX6_callingsAlike_86 : decode cX6_callingsAlike 86 = .ok (.ireturn, 1) := by decide +kernel
theorem dX6_callingsAlike_87 : decode cX6_callingsAlike 87 = .ok (.iload 5, 2) := by decide +kernel
theorem dX6_callingsAlike_89 : decode cX6_callingsAlike 89 = .ok (.istore_n 3, 1) := by decide +kernel
theorem dX6_callingsAlike_90 : decode cX6_callingsAlike 90 = .ok (.iinc 4 1, 3) := by decide +kernel
theorem dX6_callingsAlike_93 : decode cX6_callingsAlike 93 = .ok (.goto (-75), 3) := by decide +kernel
theorem dX6_callingsAlike_96 : decode cX6_callingsAlike 96 = .ok (.aload_n 1, 1) := by decide +kernel
theorem dX6_callingsAlike_97 : decode cX6_callingsAlike 97 = .ok (.getfield 143, 3) := by decide +kernel
theorem dX6_callingsAlike_100 : decode cX6_callingsAlike 100 = .ok (.aload_n 2, 1) := by decide +kernel
