theorem dX12_foretold_302 : decode cX12_foretold 302 = .ok (.iload 4, 2) := by decide +kernel
theorem dX12_foretold_304 : decode cX12_foretold 304 = .ok (.imul, 1) := by decide +kernel
theorem dX12_foretold_305 : decode cX12_foretold 305 = .ok (.ireturn, 1) := by decide +kernel
theorem dX12_count_0 : decode cX12_count 0 = .ok (.aload_n 0, 1) := by decide +kernel
theorem dX12_count_1 : decode cX12_count 1 = .ok (.iconst 0, 1) := by decide +kernel
theorem dX12_count_2 : decode cX12_count 2 = .ok (.putfield 165, 3) := by decide +kernel
theorem dX12_count_5 : decode cX12_count 5 = .ok (.iconst 0, 1) := by decide +kernel
theorem dX12_count_6 : decode cX12_count 6 = .ok (.istore_n 2, 1) := by decide +kernel
theorem dX12_count_7 : decode cX12_count 7 = .ok (.iload_n 1, 1) := by decide +kernel
theorem dX12_count_8 : decode cX12_count 8 = .ok (.tableswitch 172 0 9 #[56, 61, 66, 71, 76, 81, 86, 91, 118, 145], 56) := by decide +kernel
theorem dX12_count_64 : decode cX12_count 64 = .ok (.aload_n 0, 1) := by decide +kernel
theorem dX12_count_65 : decode cX12_count 65 = .ok (.getfield 200, 3) := by decide +kernel
theorem dX12_count_68 : decode cX12_count 68 = .ok (.ireturn, 1) := by decide +kernel
theorem dX12_count_69 : decode cX12_count 69 = .ok (.aload_n 0, 1) := by decide +kernel
theorem dX12_count_70 : decode cX12_count 70 = .ok (.getfield 168, 3) := by decide +kernel
theorem dX12_count_73 : decode cX12_count 73 = .ok (.ireturn, 1) := by decide +kernel
theorem dX12_count_74 : decode cX12_count 74 = .ok (.aload_n 0, 1) := by decide +kernel
theorem dX12_count_75 : decode cX12_count 75 = .ok (.getfield 171, 3) := by decide +kernel
theorem dX12_count_78 : decode cX12_count 78 = .ok (.ireturn, 1) := by decide +kernel
theorem dX12_count_79 : decode cX12_count 79 = .ok (.aload_n 0, 1) := by decide +kernel
theorem dX12_count_80 : decode cX12_count 80 = .ok (.getfield 311, 3) := by decide +kernel
theorem dX12_count_83 : decode cX12_count 83 = .ok (.ireturn, 1) := by decide +kernel
theorem dX12_count_84 : decode cX12_count 84 = .ok (.aload_n 0, 1) := by decide +kernel
theorem dX12_count_85 : decode cX12_count 85 = .ok (.getfield 342, 3) := by decide +kernel
theorem dX12_count_88 : decode cX12_count 88 = .ok (.ireturn, 1) := by decide +kernel
theorem dX12_count_89 : decode cX12_count 89 = .ok (.aload_n 0, 1) := by decide +kernel
theorem dX12_count_90 : decode cX12_count 90 = .ok (.getfield 351, 3) := by decide +kernel
theorem dX12_count_93 : decode cX12_count 93 = .ok (.ireturn, 1) := by decide +kernel
theorem dX12_count_94 : decode cX12_count 94 = .ok (.aload_n 0, 1) := by decide +kernel
theorem dX12_count_95 : decode cX12_count 95 = .ok (.getfield 314, 3) := by decide +kernel
theorem dX12_count_98 : decode cX12_count 98 = .ok (.ireturn, 1) := by decide +kernel
theorem dX12_count_99 : decode cX12_count 99 = .ok (.iconst 0, 1) := by decide +kernel
theorem dX12_count_100 : decode cX12_count 100 = .ok (.istore_n 3, 1) := by decide +kernel
theorem dX12_count_101 : decode cX12_count 101 = .ok (.iload_n 3, 1) := by decide +kernel
theorem dX12_count_102 : decode cX12_count 102 = .ok (.aload_n 0, 1) := by decide +kernel
theorem dX12_count_103 : decode cX12_count 103 = .ok (.getfield 171, 3) := by decide +kernel
theorem dX12_count_106 : decode cX12_count 106 = .ok (.if_icmp .ge 18, 3) := by decide +kernel
theorem dX12_count_109 : decode cX12_count 109 = .ok (.iload_n 2, 1) := by decide +kernel
theorem dX12_count_110 : decode cX12_count 110 = .ok (.aload_n 0, 1) := by decide +kernel
theorem dX12_count_111 : decode cX12_count 111 = .ok (.getfield 99, 3) := by decide +kernel
theorem dX12_count_114 : decode cX12_count 114 = .ok (.iload_n 3, 1) := by decide +kernel
theorem dX12_count_115 : decode cX12_count 115 = .ok (.iaload, 1) := by decide +kernel
theorem dX12_count_116 : decode cX12_count 116 = .ok (.iadd, 1) := by decide +kernel
theorem dX12_count_117 : decode cX12_count 117 = .ok (.istore_n 2, 1) := by decide +kernel
theorem dX12_count_118 : decode cX12_count 118 = .ok (.iinc 3 1, 3) := by decide +kernel
theorem dX12_count_121 : decode cX12_count 121 = .ok (.goto (-20), 3) := by decide +kernel
theorem dX12_count_124 : decode cX12_count 124 = .ok (.iload_n 2, 1) := by decide +kernel
theorem dX12_count_125 : decode cX12_count 125 = .ok (.ireturn, 1) := by decide +kernel
theorem dX12_count_126 : decode cX12_count 126 = .ok (.iconst 0, 1) := by decide +kernel
theorem dX12_count_127 : decode cX12_count 127 = .ok (.istore_n 3, 1) := by decide +kernel
theorem dX12_count_128 : decode cX12_count 128 = .ok (.iload_n 3, 1) := by decide +kernel
theorem dX12_count_129 : decode cX12_count 129 = .ok (.aload_n 0, 1) := by decide +kernel
theorem dX12_count_130 : decode cX12_count 130 = .ok (.getfield 171, 3) := by decide +kernel
theorem dX12_count_133 : decode cX12_count 133 = .ok (.if_icmp .ge 18, 3) := by decide +kernel
theorem dX12_count_136 : decode cX12_count 136 = .ok (.iload_n 2, 1) := by decide +kernel
theorem dX12_count_137 : decode cX12_count 137 = .ok (.aload_n 0, 1) := by decide +kernel
theorem dX12_count_138 : decode cX12_count 138 = .ok (.getfield 102, 3) := by decide +kernel
theorem dX12_count_141 : decode cX12_count 141 = .ok (.iload_n 3, 1) := by decide +kernel
theorem dX12_count_142 : decode cX12_count 142 = .ok (.iaload, 1) := by decide +kernel
theorem dX12_count_143 : decode cX12_count 143 = .ok (.iadd, 1) := by decide +kernel
theorem dX12_count_144 : decode cX12_count 144 = .ok (.istore_n 2, 1) := by decide +kernel
theorem dX12_count_145 : decode cX12_count 145 = .ok (.iinc 3 1, 3) := by decide +kernel
theorem dX12_count_148 : decode cX12_count 148 = .ok (.goto (-20), 3) := by decide +kernel
theorem dX12_count_151 : decode cX12_count 151 = .ok (.iload_n 2, 1) := by decide +kernel
theorem dX12_count_152 : decode cX12_count 152 = .ok (.ireturn, 1) := by decide +kernel
theorem dX12_count_153 : decode cX12_count 153 = .ok (.iconst 0, 1) := by decide +kernel
theorem dX12_count_154 : decode cX12_count 154 = .ok (.istore_n 3, 1) := by decide +kernel
theorem dX12_count_155 : decode cX12_count 155 = .ok (.iload_n 3, 1) := by decide +kernel
theorem dX12_count_156 : decode cX12_count 156 = .ok (.aload_n 0, 1) := by decide +kernel
theorem dX12_count_157 : decode cX12_count 157 = .ok (.getfield 203, 3) := by decide +kernel
theorem dX12_count_160 : decode cX12_count 160 = .ok (.if_icmp .ge 18, 3) := by decide +kernel
theorem dX12_count_163 : decode cX12_count 163 = .ok (.iload_n 2, 1) := by decide +kernel
theorem dX12_count_164 : decode cX12_count 164 = .ok (.aload_n 0, 1) := by decide +kernel
theorem dX12_count_165 : decode cX12_count 165 = .ok (.getfield 46, 3) := by decide +kernel
theorem dX12_count_168 : decode cX12_count 168 = .ok (.iload_n 3, 1) := by decide +kernel
theorem dX12_count_169 : decode cX12_count 169 = .ok (.iaload, 1) := by decide +kernel
theorem dX12_count_170 : decode cX12_count 170 = .ok (.iadd, 1) := by decide +kernel
theorem dX12_count_171 : decode cX12_count 171 = .ok (.istore_n 2, 1) := by decide +kernel
theorem dX12_count_172 : decode cX12_count 172 = .ok (.iinc 3 1, 3) := by decide +kernel
theorem dX12_count_175 : decode cX12_count 175 = .ok (.goto (-20), 3) := by decide +kernel
theorem dX12_count_178 : decode cX12_count 178 = .ok (.iload_n 2, 1) := by decide +kernel
theorem dX12_count_179 : decode cX12_count 179 = .ok (.ireturn, 1) := by decide +kernel
theorem dX12_count_180 : decode cX12_count 180 = .ok (.iconst (-1), 1) := by decide +kernel
theorem dX12_count_181 : decode cX12_count 181 = .ok (.ireturn, 1) := by decide +kernel
theorem dJ9_max_7cf53_0 : decode cJ9_max_7cf53 0 = .ok (.iload_n 0, 1) := by decide +kernel
theorem dJ9_max_7cf53_1 : decode cJ9_max_7cf53 1 = .ok (.iload_n 1, 1) := by decide +kernel
theorem dJ9_max_7cf53_2 : decode cJ9_max_7cf53 2 = .ok (.if_icmp .lt 7, 3) := by decide +kernel
theorem dJ9_max_7cf53_5 : decode cJ9_max_7cf53 5 = .ok (.iload_n 0, 1) := by decide +kernel
theorem dJ9_max_7cf53_6 : decode cJ9_max_7cf53 6 = .ok (.goto 4, 3) := by decide +kernel
theorem dJ9_max_7cf53_9 : decode cJ9_max_7cf53 9 = .ok (.iload_n 1, 1) := by decide +kernel
theorem dJ9_max_7cf53_10 : decode cJ9_max_7cf53 10 = .ok (.ireturn, 1) := by decide +kernel
theorem dJ9_min_7cf53_0 : decode cJ9_min_7cf53 0 = .ok (.iload_n 0, 1) := by decide +kernel
theorem dJ9_min_7cf53_1 : decode cJ9_min_7cf53 1 = .ok (.iload_n 1, 1) := by decide +kernel
theorem dJ9_min_7cf53_2 : decode cJ9_min_7cf53 2 = .ok (.if_icmp .gt 7, 3) := by decide +kernel
theorem dJ9_min_7cf53_5 : decode cJ9_min_7cf53 5 = .ok (.iload_n 0, 1) := by decide +kernel
theorem dJ9_min_7cf53_6 : decode cJ9_min_7cf53 6 = .ok (.goto 4, 3) := by decide +kernel
theorem dJ9_min_7cf53_9 : decode cJ9_min_7cf53 9 = .ok (.iload_n 1, 1) := by decide +kernel
theorem dJ9_min_7cf53_10 : decode cJ9_min_7cf53 10 = .ok (.ireturn, 1) := by decide +kernel
set_option maxRecDepth 20000 in
theorem glJ0_length_8abf5_0 : GoodIn wsJ0_length_8abf5 ([.fieldLink RJ0 9 "java/lang/String" "value" "[B", .methodLink RJ0 335 yJ0_coder_7d493, .instanceMethod yJ0_coder_7d493, .selects RJ0 yJ0_coder_7d493 yJ0_coder_7d493, .initialized RJ0, .code yJ0_coder_7d493 cJ0_coder_7d493 1 (some .byte), .fieldLink RJ0 38 "java/lang/String" "COMPACT_STRINGS" "Z", .fieldLink RJ0 15 "java/lang/String" "coder" "B"]) := goodIn_sub (fun _ h => List.mem_cons_of_mem _ (h)) (by decide +kernel)
set_option maxRecDepth 20000 in
theorem ggJ0_length_8abf5_J0_coder_7d493 : GoodIn wsJ0_length_8abf5 wsJ0_coder_7d493 := goodIn_c (glJ0_length_8abf5_0 _ (List.mem_of_getElem? (i := 5) rfl)) (goodIn_c (glJ0_length_8abf5_0 _ (List.mem_of_getElem? (i := 6) rfl)) (goodIn_c (glJ0_length_8abf5_0 _ (List.mem_of_getElem? (i := 7) rfl)) (goodIn_n)))
set_option maxRecDepth 20000 in
theorem gJ0_length_8abf5_J0_coder_7d493 : GoodIn wsJ0_length_8abf5 (wsV RJ0 335 RJ0 yJ0_coder_7d493 wsJ0_coder_7d493) := goodIn_app (goodIn_of _ (by decide +kernel)) ggJ0_length_8abf5_J0_coder_7d493
theorem dJ0_length_8abf5_0 : decode cJ0_length_8abf5 0 = .ok (.aload_n 0, 1) := by decide +kernel
theorem dJ0_length_8abf5_1 : decode cJ0_length_8abf5 1 = .ok (.getfield 9, 3) := by decide +kernel
theorem dJ0_length_8abf5_4 : decode cJ0_length_8abf5 4 = .ok (.arraylength, 1) := by decide +kernel
theorem dJ0_length_8abf5_5 : decode cJ0_length_8abf5 5 = .ok (.aload_n 0, 1) := by decide +kernel
theorem dJ0_length_8abf5_6 : decode cJ0_length_8abf5 6 = .ok (.invokevirtual 335, 3) := by decide +kernel
theorem dJ0_length_8abf5_9 : decode cJ0_length_8abf5 9 = .ok (.ishr, 1) := by decide +kernel
theorem dJ0_length_8abf5_10 : decode cJ0_length_8abf5 10 = .ok (.ireturn, 1) := by decide +kernel
set_option maxRecDepth 20000 in
theorem glJ0_charAt_5068e_0 : GoodIn wsJ0_charAt_5068e (wsJ0_charAt_5068e_r1) := goodIn_sub (fun _ h => List.mem_cons_of_mem _ (List.mem_append_left _ (h))) (by decide +kernel)
set_option maxRecDepth 20000 in
theorem ggJ0_charAt_5068e_J0_isLatin1_aae02 : GoodIn wsJ0_charAt_5068e wsJ0_isLatin1_aae02 := goodIn_c (glJ0_charAt_5068e_0 _ (List.mem_of_getElem? (i := 5) rfl)) (goodIn_c (glJ0_charAt_5068e_0 _ (List.mem_of_getElem? (i := 6) rfl)) (goodIn_c (glJ0_charAt_5068e_0 _ (List.mem_of_getElem? (i := 7) rfl)) (goodIn_n)))
set_option maxRecDepth 20000 in
theorem gJ0_charAt_5068e_J0_isLatin1_aae02 : GoodIn wsJ0_charAt_5068e (wsV RJ0 492 RJ0 yJ0_isLatin1_aae02 wsJ0_isLatin1_aae02) := goodIn_app (goodIn_of _ (by decide +kernel)) ggJ0_charAt_5068e_J0_isLatin1_aae02
set_option maxRecDepth 20000 in
theorem ggJ0_charAt_5068e_J1_charAt_3b067 : GoodIn wsJ0_charAt_5068e wsJ1_charAt_3b067 := goodIn_c (glJ0_charAt_5068e_0 _ (List.mem_of_getElem? (i := 11) rfl)) (goodIn_c (glJ0_charAt_5068e_0 _ (List.mem_of_getElem? (i := 12) rfl)) (goodIn_c (glJ0_charAt_5068e_0 _ (List.mem_of_getElem? (i := 13) rfl)) (goodIn_c (glJ0_charAt_5068e_0 _ (List.mem_of_getElem? (i := 4) rfl)) (goodIn_c (glJ0_charAt_5068e_0 _ (List.mem_of_getElem? (i := 14) rfl)) (goodIn_c (glJ0_charAt_5068e_0 _ (List.mem_of_getElem? (i := 15) rfl)) (goodIn_c (glJ0_charAt_5068e_0 _ (List.mem_of_getElem? (i := 16) rfl)) (goodIn_c (glJ0_charAt_5068e_0 _ (List.mem_of_getElem? (i := 17) rfl)) (goodIn_c (glJ0_charAt_5068e_0 _ (List.mem_of_getElem? (i := 18) rfl)) (goodIn_c (glJ0_charAt_5068e_0 _ (List.mem_of_getElem? (i := 19) rfl)) (goodIn_n))))))))))
set_option maxRecDepth 20000 in
theorem gJ0_charAt_5068e_J1_charAt_3b067 : GoodIn wsJ0_charAt_5068e (va_wsS RJ0 495 yJ1_charAt_3b067 wsJ1_charAt_3b067) := goodIn_app (goodIn_of _ (by decide +kernel)) ggJ0_charAt_5068e_J1_charAt_3b067
set_option maxRecDepth 20000 in
theorem glJ0_charAt_5068e_1 : GoodIn wsJ0_charAt_5068e (wsJ0_charAt_5068e_r2) := goodIn_sub (fun _ h => List.mem_cons_of_mem _ (List.mem_append_right _ (h))) (by decide +kernel)
set_option maxRecDepth 20000 in
theorem ggJ0_charAt_5068e_J2_charAt_3b067 : GoodIn wsJ0_charAt_5068e wsJ2_charAt_3b067 := goodIn_c (glJ0_charAt_5068e_0 _ (List.mem_of_getElem? (i := 23) rfl)) (goodIn_c (glJ0_charAt_5068e_1 _ (List.mem_of_getElem? (i := 0) rfl)) (goodIn_c (glJ0_charAt_5068e_1 _ (List.mem_of_getElem? (i := 1) rfl)) (goodIn_c (glJ0_charAt_5068e_0 _ (List.mem_of_getElem? (i := 22) rfl)) (goodIn_c (glJ0_charAt_5068e_1 _ (List.mem_of_getElem? (i := 2) rfl)) (goodIn_c (glJ0_charAt_5068e_1 _ (List.mem_of_getElem? (i := 3) rfl)) (goodIn_c (glJ0_charAt_5068e_1 _ (List.mem_of_getElem? (i := 4) rfl)) (goodIn_c (glJ0_charAt_5068e_1 _ (List.mem_of_getElem? (i := 5) rfl)) (goodIn_c (glJ0_charAt_5068e_1 _ (List.mem_of_getElem? (i := 6) rfl)) (goodIn_c (glJ0_charAt_5068e_0 _ (List.mem_of_getElem? (i := 13) rfl)) (goodIn_c (glJ0_charAt_5068e_0 _ (List.mem_of_getElem? (i := 4) rfl)) (goodIn_c (glJ0_charAt_5068e_0 _ (List.mem_of_getElem? (i := 14) rfl)) (goodIn_c (glJ0_charAt_5068e_0 _ (List.mem_of_getElem? (i := 15) rfl)) (goodIn_c (glJ0_charAt_5068e_0 _ (List.mem_of_getElem? (i := 16) rfl)) (goodIn_c (glJ0_charAt_5068e_0 _ (List.mem_of_getElem? (i := 17) rfl)) (goodIn_c (glJ0_charAt_5068e_0 _ (List.mem_of_getElem? (i := 18) rfl)) (goodIn_c (glJ0_charAt_5068e_0 _ (List.mem_of_getElem? (i := 19) rfl)) (goodIn_c (glJ0_charAt_5068e_1 _ (List.mem_of_getElem? (i := 7) rfl)) (goodIn_c (glJ0_charAt_5068e_1 _ (List.mem_of_getElem? (i := 8) rfl)) (goodIn_c (glJ0_charAt_5068e_1 _ (List.mem_of_getElem? (i := 9) rfl)) (goodIn_c (glJ0_charAt_5068e_1 _ (List.mem_of_getElem? (i := 10) rfl)) (goodIn_c (glJ0_charAt_5068e_1 _ (List.mem_of_getElem? (i := 11) rfl)) (goodIn_c (glJ0_charAt_5068e_1 _ (List.mem_of_getElem? (i := 12) rfl)) (goodIn_n)))))))))))))))))))))))
set_option maxRecDepth 20000 in
theorem gJ0_charAt_5068e_J2_charAt_3b067 : GoodIn wsJ0_charAt_5068e (va_wsS RJ0 498 yJ2_charAt_3b067 wsJ2_charAt_3b067) := goodIn_app (goodIn_of _ (by decide +kernel)) ggJ0_charAt_5068e_J2_charAt_3b067
theorem dJ0_charAt_5068e_0 : decode cJ0_charAt_5068e 0 = .ok (.aload_n 0, 1) := by decide +kernel
theorem dJ0_charAt_5068e_1 : decode cJ0_charAt_5068e 1 = .ok (.invokevirtual 492, 3) := by decide +kernel
theorem dJ0_charAt_5068e_4 : decode cJ0_charAt_5068e 4 = .ok (.ifCond .eq 12, 3) := by decide +kernel
theorem dJ0_charAt_5068e_7 : decode cJ0_charAt_5068e 7 = .ok (.aload_n 0, 1) := by decide +kernel
theorem dJ0_charAt_5068e_8 : decode cJ0_charAt_5068e 8 = .ok (.getfield 9, 3) := by decide +kernel
theorem dJ0_charAt_5068e_11 : decode cJ0_charAt_5068e 11 = .ok (.iload_n 1, 1) := by decide +kernel
theorem dJ0_charAt_5068e_12 : decode cJ0_charAt_5068e 12 = .ok (.invokestatic 495, 3) := by decide +kernel
theorem dJ0_charAt_5068e_15 : decode cJ0_charAt_5068e 15 = .ok (.ireturn, 1) := by decide +kernel
theorem dJ0_charAt_5068e_16 : decode cJ0_charAt_5068e 16 = .ok (.aload_n 0, 1) := by decide +kernel
theorem dJ0_charAt_5068e_17 : decode cJ0_charAt_5068e 17 = .ok (.getfield 9, 3) := by decide +kernel
theorem dJ0_charAt_5068e_20 : decode cJ0_charAt_5068e 20 = .ok (.iload_n 1, 1) := by decide +kernel
theorem dJ0_charAt_5068e_21 : decode cJ0_charAt_5068e 21 = .ok (.invokestatic 498, 3) := by decide +kernel
theorem dJ0_charAt_5068e_24 : decode cJ0_charAt_5068e 24 = .ok (.ireturn, 1) := by decide +kernel
theorem dJ0_coder_7d493_0 : decode cJ0_coder_7d493 0 = .ok (.getstatic 38, 3) := by decide +kernel
theorem dJ0_coder_7d493_3 : decode cJ0_coder_7d493 3 = .ok (.ifCond .eq 10, 3) := by decide +kernel
theorem dJ0_coder_7d493_6 : decode cJ0_coder_7d493 6 = .ok (.aload_n 0, 1) := by decide +kernel
theorem dJ0_coder_7d493_7 : decode cJ0_coder_7d493 7 = .ok (.getfield 15, 3) := by decide +kernel
theorem dJ0_coder_7d493_10 : decode cJ0_coder_7d493 10 = .ok (.goto 4, 3) := by decide +kernel
theorem dJ0_coder_7d493_13 : decode cJ0_coder_7d493 13 = .ok (.iconst 1, 1) := by decide +kernel
theorem dJ0_coder_7d493_14 : decode cJ0_coder_7d493 14 = .ok (.ireturn, 1) := by decide +kernel
theorem dJ0_isLatin1_aae02_0 : decode cJ0_isLatin1_aae02 0 = .ok (.getstatic 38, 3) := by decide +kernel
theorem dJ0_isLatin1_aae02_3 : decode cJ0_isLatin1_aae02 3 = .ok (.ifCond .eq 14, 3) := by decide +kernel
theorem dJ0_isLatin1_aae02_6 : decode cJ0_isLatin1_aae02 6 = .ok (.aload_n 0, 1) := by decide +kernel
theorem dJ0_isLatin1_aae02_7 : decode cJ0_isLatin1_aae02 7 = .ok (.getfield 15, 3) := by decide +kernel
theorem dJ0_isLatin1_aae02_10 : decode cJ0_isLatin1_aae02 10 = .ok (.ifCond .ne 7, 3) := by decide +kernel
theorem dJ0_isLatin1_aae02_13 : decode cJ0_isLatin1_aae02 13 = .ok (.iconst 1, 1) := by decide +kernel
theorem dJ0_isLatin1_aae02_14 : decode cJ0_isLatin1_aae02 14 = .ok (.goto 4, 3) := by decide +kernel
theorem dJ0_isLatin1_aae02_17 : decode cJ0_isLatin1_aae02 17 = .ok (.iconst 0, 1) := by decide +kernel
theorem dJ0_isLatin1_aae02_18 : decode cJ0_isLatin1_aae02 18 = .ok (.ireturn, 1) := by decide +kernel
set_option maxRecDepth 20000 in
theorem glJ0_checkIndex_df160_0 : GoodIn wsJ0_checkIndex_df160 ([.fieldLink RJ0 1053 "jdk/internal/util/Preconditions" "SIOOBE_FORMATTER" "Ljava/util/function/BiFunction;", .methodLink RJ0 1059 yJ3_checkIndex_8e157, .static yJ3_checkIndex_8e157, .initialized RJ3, .code yJ3_checkIndex_8e157 cJ3_checkIndex_8e157 3 (some .int)]) := goodIn_sub (fun _ h => List.mem_cons_of_mem _ (h)) (by decide +kernel)
set_option maxRecDepth 20000 in
theorem ggJ0_checkIndex_df160_J3_checkIndex_8e157 : GoodIn wsJ0_checkIndex_df160 wsJ3_checkIndex_8e157 := goodIn_c (glJ0_checkIndex_df160_0 _ (List.mem_of_getElem? (i := 4) rfl)) (goodIn_n)
set_option maxRecDepth 20000 in
theorem gJ0_checkIndex_df160_J3_checkIndex_8e157 : GoodIn wsJ0_checkIndex_df160 (va_wsS RJ0 1059 yJ3_checkIndex_8e157 wsJ3_checkIndex_8e157) := goodIn_app (goodIn_of _ (by decide +kernel)) ggJ0_checkIndex_df160_J3_checkIndex_8e157
theorem dJ0_checkIndex_df160_0 : decode cJ0_checkIndex_df160 0 = .ok (.iload_n 0, 1) := by decide +kernel
theorem dJ0_checkIndex_df160_1 : decode cJ0_checkIndex_df160 1 = .ok (.iload_n 1, 1) := by decide +kernel
theorem dJ0_checkIndex_df160_2 : decode cJ0_checkIndex_df160 2 = .ok (.getstatic 1053, 3) := by decide +kernel
theorem dJ0_checkIndex_df160_5 : decode cJ0_checkIndex_df160 5 = .ok (.invokestatic 1059, 3) := by decide +kernel
theorem dJ0_checkIndex_df160_8 : decode cJ0_checkIndex_df160 8 = .ok (.pop, 1) := by decide +kernel
theorem dJ0_checkIndex_df160_9 : decode cJ0_checkIndex_df160 9 = .ok (.return_, 1) := by decide +kernel
set_option maxRecDepth 20000 in
theorem glJ1_charAt_3b067_0 : GoodIn wsJ1_charAt_3b067 ([.methodLink RJ1 9 yJ0_checkIndex_df160, .static yJ0_checkIndex_df160, .initialized RJ0, .code yJ0_checkIndex_df160 cJ0_checkIndex_df160 2 none, .fieldLink RJ0 1053 "jdk/internal/util/Preconditions" "SIOOBE_FORMATTER" "Ljava/util/function/BiFunction;", .methodLink RJ0 1059 yJ3_checkIndex_8e157, .static yJ3_checkIndex_8e157, .initialized RJ3, .code yJ3_checkIndex_8e157 cJ3_checkIndex_8e157 3 (some .int)]) := goodIn_sub (fun _ h => List.mem_cons_of_mem _ (h)) (by decide +kernel)
set_option maxRecDepth 20000 in
theorem ggJ1_charAt_3b067_J0_checkIndex_df160 : GoodIn wsJ1_charAt_3b067 wsJ0_checkIndex_df160 := goodIn_c (glJ1_charAt_3b067_0 _ (List.mem_of_getElem? (i := 3) rfl)) (goodIn_c (glJ1_charAt_3b067_0 _ (List.mem_of_getElem? (i := 4) rfl)) (goodIn_c (glJ1_charAt_3b067_0 _ (List.mem_of_getElem? (i := 5) rfl)) (goodIn_c (glJ1_charAt_3b067_0 _ (List.mem_of_getElem? (i := 6) rfl)) (goodIn_c (glJ1_charAt_3b067_0 _ (List.mem_of_getElem? (i := 7) rfl)) (goodIn_c (glJ1_charAt_3b067_0 _ (List.mem_of_getElem? (i := 8) rfl)) (goodIn_n))))))
set_option maxRecDepth 20000 in
theorem gJ1_charAt_3b067_J0_checkIndex_df160 : GoodIn wsJ1_charAt_3b067 (va_wsS RJ1 9 yJ0_checkIndex_df160 wsJ0_checkIndex_df160) := goodIn_app (goodIn_of _ (by decide +kernel)) ggJ1_charAt_3b067_J0_checkIndex_df160
theorem dJ1_charAt_3b067_0 : decode cJ1_charAt_3b067 0 = .ok (.iload_n 1, 1) := by decide +kernel
theorem dJ1_charAt_3b067_1 : decode cJ1_charAt_3b067 1 = .ok (.aload_n 0, 1) := by decide +kernel
theorem dJ1_charAt_3b067_2 : decode cJ1_charAt_3b067 2 = .ok (.arraylength, 1) := by decide +kernel
theorem dJ1_charAt_3b067_3 : decode cJ1_charAt_3b067 3 = .ok (.invokestatic 9, 3) := by decide +kernel
theorem dJ1_charAt_3b067_6 : decode cJ1_charAt_3b067 6 = .ok (.aload_n 0, 1) := by decide +kernel
theorem dJ1_charAt_3b067_7 : decode cJ1_charAt_3b067 7 = .ok (.iload_n 1, 1) := by decide +kernel
theorem dJ1_charAt_3b067_8 : decode cJ1_charAt_3b067 8 = .ok (.baload, 1) := by decide +kernel
theorem dJ1_charAt_3b067_9 : decode cJ1_charAt_3b067 9 = .ok (.sipush 255, 3) := by decide +kernel
theorem dJ1_charAt_3b067_12 : decode cJ1_charAt_3b067 12 = .ok (.iand, 1) := by decide +kernel
theorem dJ1_charAt_3b067_13 : decode cJ1_charAt_3b067 13 = .ok (.i2c, 1) := by decide +kernel
theorem dJ1_charAt_3b067_14 : decode cJ1_charAt_3b067 14 = .ok (.ireturn, 1) := by decide +kernel
set_option maxRecDepth 20000 in
theorem glJ2_getChar_3b067_0 : GoodIn wsJ2_getChar_3b067 ([.fieldLink RJ2 44 "java/lang/StringUTF16" "$assertionsDisabled" "Z", .fieldLink RJ2 59 "java/lang/StringUTF16" "HI_BYTE_SHIFT" "I", .fieldLink RJ2 63 "java/lang/StringUTF16" "LO_BYTE_SHIFT" "I", .methodLink RJ2 48 yJ2_length_9d52b, .static yJ2_length_9d52b, .initialized RJ2, .code yJ2_length_9d52b cJ2_length_9d52b 1 (some .int)]) := goodIn_sub (fun _ h => List.mem_cons_of_mem _ (h)) (by decide +kernel)
set_option maxRecDepth 20000 in
theorem ggJ2_getChar_3b067_J2_length_9d52b : GoodIn wsJ2_getChar_3b067 wsJ2_length_9d52b := goodIn_c (glJ2_getChar_3b067_0 _ (List.mem_of_getElem? (i := 6) rfl)) (goodIn_n)
set_option maxRecDepth 20000 in
theorem gJ2_getChar_3b067_J2_length_9d52b : GoodIn wsJ2_getChar_3b067 (va_wsS RJ2 48 yJ2_length_9d52b wsJ2_length_9d52b) := goodIn_app (goodIn_of _ (by decide +kernel)) ggJ2_getChar_3b067_J2_length_9d52b
theorem dJ2_getChar_3b067_0 : decode cJ2_getChar_3b067 0 = .ok (.getstatic 44, 3) := by decide +kernel
theorem dJ2_getChar_3b067_3 : decode cJ2_getChar_3b067 3 = .ok (.ifCond .ne 25, 3) := by decide +kernel
theorem dJ2_getChar_3b067_6 : decode cJ2_getChar_3b067 6 = .ok (.iload_n 1, 1) := by decide +kernel
theorem dJ2_getChar_3b067_7 : decode cJ2_getChar_3b067 7 = .ok (.ifCond .lt 11, 3) := by decide +kernel
theorem dJ2_getChar_3b067_10 : decode cJ2_getChar_3b067 10 = .ok (.iload_n 1, 1) := by decide +kernel
theorem dJ2_getChar_3b067_11 : decode cJ2_getChar_3b067 11 = .ok (.aload_n 0, 1) := by decide +kernel
theorem dJ2_getChar_3b067_12 : decode cJ2_getChar_3b067 12 = .ok (.invokestatic 48, 3) := by decide +kernel
theorem dJ2_getChar_3b067_15 : decode cJ2_getChar_3b067 15 = .ok (.if_icmp .lt 13, 3) := by decide +kernel
theorem dJ2_getChar_3b067_18 : decode cJ2_getChar_3b067 18 = .ok (.new 52, 3) := by decide +kernel
theorem dJ2_getChar_3b067_21 : decode cJ2_getChar_3b067 21 = .ok (.dup, 1) := by decide +kernel
theorem dJ2_getChar_3b067_22 : decode cJ2_getChar_3b067 22 = .ok (.ldc 54, 2) := by decide +kernel
theorem dJ2_getChar_3b067_24 : decode cJ2_getChar_3b067 24 = .ok (.invokespecial 56, 3) := by decide +kernel
theorem dJ2_getChar_3b067_27 : decode cJ2_getChar_3b067 27 = .ok (.athrow, 1) := by decide +kernel
theorem dJ2_getChar_3b067_28 : decode cJ2_getChar_3b067 28 = .ok (.iload_n 1, 1) := by decide +kernel
theorem dJ2_getChar_3b067_29 : decode cJ2_getChar_3b067 29 = .ok (.iconst 1, 1) := by decide +kernel
theorem dJ2_getChar_3b067_30 : decode cJ2_getChar_3b067 30 = .ok (.ishl, 1) := by decide +kernel
theorem dJ2_getChar_3b067_31 : decode cJ2_getChar_3b067 31 = .ok (.istore_n 1, 1) := by decide +kernel
theorem dJ2_getChar_3b067_32 : decode cJ2_getChar_3b067 32 = .ok (.aload_n 0, 1) := by decide +kernel
theorem dJ2_getChar_3b067_33 : decode cJ2_getChar_3b067 33 = .ok (.iload_n 1, 1) := by decide +kernel
theorem dJ2_getChar_3b067_34 : decode cJ2_getChar_3b067 34 = .ok (.iinc 1 1, 3) := by decide +kernel
theorem dJ2_getChar_3b067_37 : decode cJ2_getChar_3b067 37 = .ok (.baload, 1) := by decide +kernel
theorem dJ2_getChar_3b067_38 : decode cJ2_getChar_3b067 38 = .ok (.sipush 255, 3) := by decide +kernel
theorem dJ2_getChar_3b067_41 : decode cJ2_getChar_3b067 41 = .ok (.iand, 1) := by decide +kernel
theorem dJ2_getChar_3b067_42 : decode cJ2_getChar_3b067 42 = .ok (.getstatic 59, 3) := by decide +kernel
theorem dJ2_getChar_3b067_45 : decode cJ2_getChar_3b067 45 = .ok (.ishl, 1) := by decide +kernel
theorem dJ2_getChar_3b067_46 : decode cJ2_getChar_3b067 46 = .ok (.aload_n 0, 1) := by decide +kernel
theorem dJ2_getChar_3b067_47 : decode cJ2_getChar_3b067 47 = .ok (.iload_n 1, 1) := by decide +kernel
theorem dJ2_getChar_3b067_48 : decode cJ2_getChar_3b067 48 = .ok (.baload, 1) := by decide +kernel
theorem dJ2_getChar_3b067_49 : decode cJ2_getChar_3b067 49 = .ok (.sipush 255, 3) := by decide +kernel
theorem dJ2_getChar_3b067_52 : decode cJ2_getChar_3b067 52 = .ok (.iand, 1) := by decide +kernel
theorem dJ2_getChar_3b067_53 : decode cJ2_getChar_3b067 53 = .ok (.getstatic 63, 3) := by decide +kernel
theorem dJ2_getChar_3b067_56 : decode cJ2_getChar_3b067 56 = .ok (.ishl, 1) := by decide +kernel
theorem dJ2_getChar_3b067_57 : decode cJ2_getChar_3b067 57 = .ok (.ior, 1) := by decide +kernel
theorem dJ2_getChar_3b067_58 : decode cJ2_getChar_3b067 58 = .ok (.i2c, 1) := by decide +kernel
theorem dJ2_getChar_3b067_59 : decode cJ2_getChar_3b067 59 = .ok (.ireturn, 1) := by decide +kernel
theorem dJ2_length_9d52b_0 : decode cJ2_length_9d52b 0 = .ok (.aload_n 0, 1) := by decide +kernel
theorem dJ2_length_9d52b_1 : decode cJ2_length_9d52b 1 = .ok (.arraylength, 1) := by decide +kernel
theorem dJ2_length_9d52b_2 : decode cJ2_length_9d52b 2 = .ok (.iconst 1, 1) := by decide +kernel
theorem dJ2_length_9d52b_3 : decode cJ2_length_9d52b 3 = .ok (.ishr, 1) := by decide +kernel
theorem dJ2_length_9d52b_4 : decode cJ2_length_9d52b 4 = .ok (.ireturn, 1) := by decide +kernel
set_option maxRecDepth 20000 in
theorem glJ2_charAt_3b067_0 : GoodIn wsJ2_charAt_3b067 ([.methodLink RJ2 67 yJ2_checkIndex_2214a, .static yJ2_checkIndex_2214a, .initialized RJ2, .code yJ2_checkIndex_2214a cJ2_checkIndex_2214a 2 none, .methodLink RJ2 48 yJ2_length_9d52b, .static yJ2_length_9d52b, .code yJ2_length_9d52b cJ2_length_9d52b 1 (some .int), .methodLink RJ2 414 yJ0_checkIndex_df160, .static yJ0_checkIndex_df160, .initialized RJ0, .code yJ0_checkIndex_df160 cJ0_checkIndex_df160 2 none, .fieldLink RJ0 1053 "jdk/internal/util/Preconditions" "SIOOBE_FORMATTER" "Ljava/util/function/BiFunction;", .methodLink RJ0 1059 yJ3_checkIndex_8e157, .static yJ3_checkIndex_8e157, .initialized RJ3, .code yJ3_checkIndex_8e157 cJ3_checkIndex_8e157 3 (some .int), .methodLink RJ2 71 yJ2_getChar_3b067, .static yJ2_getChar_3b067, .code yJ2_getChar_3b067 cJ2_getChar_3b067 2 (some .char), .fieldLink RJ2 44 "java/lang/StringUTF16" "$assertionsDisabled" "Z", .fieldLink RJ2 59 "java/lang/StringUTF16" "HI_BYTE_SHIFT" "I", .fieldLink RJ2 63 "java/lang/StringUTF16" "LO_BYTE_SHIFT" "I"]) := goodIn_sub (fun _ h => List.mem_cons_of_mem _ (h)) (by decide +kernel)
set_option maxRecDepth 20000 in
theorem ggJ2_charAt_3b067_J2_checkIndex_2214a : GoodIn wsJ2_charAt_3b067 wsJ2_checkIndex_2214a := goodIn_c (glJ2_charAt_3b067_0 _ (List.mem_of_getElem? (i := 3) rfl)) (goodIn_c (glJ2_charAt_3b067_0 _ (List.mem_of_getElem? (i := 4) rfl)) (goodIn_c (glJ2_charAt_3b067_0 _ (List.mem_of_getElem? (i := 5) rfl)) (goodIn_c (glJ2_charAt_3b067_0 _ (List.mem_of_getElem? (i := 2) rfl)) (goodIn_c (glJ2_charAt_3b067_0 _ (List.mem_of_getElem? (i := 6) rfl)) (goodIn_c (glJ2_charAt_3b067_0 _ (List.mem_of_getElem? (i := 7) rfl)) (goodIn_c (glJ2_charAt_3b067_0 _ (List.mem_of_getElem? (i := 8) rfl)) (goodIn_c (glJ2_charAt_3b067_0 _ (List.mem_of_getElem? (i := 9) rfl)) (goodIn_c (glJ2_charAt_3b067_0 _ (List.mem_of_getElem? (i := 10) rfl)) (goodIn_c (glJ2_charAt_3b067_0 _ (List.mem_of_getElem? (i := 11) rfl)) (goodIn_c (glJ2_charAt_3b067_0 _ (List.mem_of_getElem? (i := 12) rfl)) (goodIn_c (glJ2_charAt_3b067_0 _ (List.mem_of_getElem? (i := 13) rfl)) (goodIn_c (glJ2_charAt_3b067_0 _ (List.mem_of_getElem? (i := 14) rfl)) (goodIn_c (glJ2_charAt_3b067_0 _ (List.mem_of_getElem? (i := 15) rfl)) (goodIn_n))))))))))))))
set_option maxRecDepth 20000 in
theorem gJ2_charAt_3b067_J2_checkIndex_2214a : GoodIn wsJ2_charAt_3b067 (va_wsS RJ2 67 yJ2_checkIndex_2214a wsJ2_checkIndex_2214a) := goodIn_app (goodIn_of _ (by decide +kernel)) ggJ2_charAt_3b067_J2_checkIndex_2214a
set_option maxRecDepth 20000 in
theorem ggJ2_charAt_3b067_J2_getChar_3b067 : GoodIn wsJ2_charAt_3b067 wsJ2_getChar_3b067 := goodIn_c (glJ2_charAt_3b067_0 _ (List.mem_of_getElem? (i := 18) rfl)) (goodIn_c (glJ2_charAt_3b067_0 _ (List.mem_of_getElem? (i := 19) rfl)) (goodIn_c (glJ2_charAt_3b067_0 _ (List.mem_of_getElem? (i := 20) rfl)) (goodIn_c (glJ2_charAt_3b067_0 _ (List.mem_of_getElem? (i := 21) rfl)) (goodIn_c (glJ2_charAt_3b067_0 _ (List.mem_of_getElem? (i := 4) rfl)) (goodIn_c (glJ2_charAt_3b067_0 _ (List.mem_of_getElem? (i := 5) rfl)) (goodIn_c (glJ2_charAt_3b067_0 _ (List.mem_of_getElem? (i := 2) rfl)) (goodIn_c (glJ2_charAt_3b067_0 _ (List.mem_of_getElem? (i := 6) rfl)) (goodIn_n))))))))
set_option maxRecDepth 20000 in
theorem gJ2_charAt_3b067_J2_getChar_3b067 : GoodIn wsJ2_charAt_3b067 (va_wsS RJ2 71 yJ2_getChar_3b067 wsJ2_getChar_3b067) := goodIn_app (goodIn_of _ (by decide +kernel)) ggJ2_charAt_3b067_J2_getChar_3b067
theorem dJ2_charAt_3b067_0 : decode cJ2_charAt_3b067 0 = .ok (.iload_n 1, 1) := by decide +kernel
theorem dJ2_charAt_3b067_1 : decode cJ2_charAt_3b067 1 = .ok (.aload_n 0, 1) := by decide +kernel
theorem dJ2_charAt_3b067_2 : decode cJ2_charAt_3b067 2 = .ok (.invokestatic 67, 3) := by decide +kernel
theorem dJ2_charAt_3b067_5 : decode cJ2_charAt_3b067 5 = .ok (.aload_n 0, 1) := by decide +kernel
theorem dJ2_charAt_3b067_6 : decode cJ2_charAt_3b067 6 = .ok (.iload_n 1, 1) := by decide +kernel
theorem dJ2_charAt_3b067_7 : decode cJ2_charAt_3b067 7 = .ok (.invokestatic 71, 3) := by decide +kernel
theorem dJ2_charAt_3b067_10 : decode cJ2_charAt_3b067 10 = .ok (.ireturn, 1) := by decide +kernel
set_option maxRecDepth 20000 in
theorem glJ2_checkIndex_2214a_0 : GoodIn wsJ2_checkIndex_2214a ([.methodLink RJ2 48 yJ2_length_9d52b, .static yJ2_length_9d52b, .initialized RJ2, .code yJ2_length_9d52b cJ2_length_9d52b 1 (some .int), .methodLink RJ2 414 yJ0_checkIndex_df160, .static yJ0_checkIndex_df160, .initialized RJ0, .code yJ0_checkIndex_df160 cJ0_checkIndex_df160 2 none, .fieldLink RJ0 1053 "jdk/internal/util/Preconditions" "SIOOBE_FORMATTER" "Ljava/util/function/BiFunction;", .methodLink RJ0 1059 yJ3_checkIndex_8e157, .static yJ3_checkIndex_8e157, .initialized RJ3, .code yJ3_checkIndex_8e157 cJ3_checkIndex_8e157 3 (some .int)]) := goodIn_sub (fun _ h => List.mem_cons_of_mem _ (h)) (by decide +kernel)
set_option maxRecDepth 20000 in
theorem ggJ2_checkIndex_2214a_J2_length_9d52b : GoodIn wsJ2_checkIndex_2214a wsJ2_length_9d52b := goodIn_c (glJ2_checkIndex_2214a_0 _ (List.mem_of_getElem? (i := 3) rfl)) (goodIn_n)
set_option maxRecDepth 20000 in
theorem gJ2_checkIndex_2214a_J2_length_9d52b : GoodIn wsJ2_checkIndex_2214a (va_wsS RJ2 48 yJ2_length_9d52b wsJ2_length_9d52b) := goodIn_app (goodIn_of _ (by decide +kernel)) ggJ2_checkIndex_2214a_J2_length_9d52b
set_option maxRecDepth 20000 in
theorem ggJ2_checkIndex_2214a_J0_checkIndex_df160 : GoodIn wsJ2_checkIndex_2214a wsJ0_checkIndex_df160 := goodIn_c (glJ2_checkIndex_2214a_0 _ (List.mem_of_getElem? (i := 7) rfl)) (goodIn_c (glJ2_checkIndex_2214a_0 _ (List.mem_of_getElem? (i := 8) rfl)) (goodIn_c (glJ2_checkIndex_2214a_0 _ (List.mem_of_getElem? (i := 9) rfl)) (goodIn_c (glJ2_checkIndex_2214a_0 _ (List.mem_of_getElem? (i := 10) rfl)) (goodIn_c (glJ2_checkIndex_2214a_0 _ (List.mem_of_getElem? (i := 11) rfl)) (goodIn_c (glJ2_checkIndex_2214a_0 _ (List.mem_of_getElem? (i := 12) rfl)) (goodIn_n))))))
set_option maxRecDepth 20000 in
theorem gJ2_checkIndex_2214a_J0_checkIndex_df160 : GoodIn wsJ2_checkIndex_2214a (va_wsS RJ2 414 yJ0_checkIndex_df160 wsJ0_checkIndex_df160) := goodIn_app (goodIn_of _ (by decide +kernel)) ggJ2_checkIndex_2214a_J0_checkIndex_df160
theorem dJ2_checkIndex_2214a_0 : decode cJ2_checkIndex_2214a 0 = .ok (.iload_n 0, 1) := by decide +kernel
theorem dJ2_checkIndex_2214a_1 : decode cJ2_checkIndex_2214a 1 = .ok (.aload_n 1, 1) := by decide +kernel
theorem dJ2_checkIndex_2214a_2 : decode cJ2_checkIndex_2214a 2 = .ok (.invokestatic 48, 3) := by decide +kernel
theorem dJ2_checkIndex_2214a_5 : decode cJ2_checkIndex_2214a 5 = .ok (.invokestatic 414, 3) := by decide +kernel
theorem dJ2_checkIndex_2214a_8 : decode cJ2_checkIndex_2214a 8 = .ok (.return_, 1) := by decide +kernel
theorem dJ3_checkIndex_8e157_0 : decode cJ3_checkIndex_8e157 0 = .ok (.iload_n 0, 1) := by decide +kernel
theorem dJ3_checkIndex_8e157_1 : decode cJ3_checkIndex_8e157 1 = .ok (.ifCond .lt 8, 3) := by decide +kernel
theorem dJ3_checkIndex_8e157_4 : decode cJ3_checkIndex_8e157 4 = .ok (.iload_n 0, 1) := by decide +kernel
theorem dJ3_checkIndex_8e157_5 : decode cJ3_checkIndex_8e157 5 = .ok (.iload_n 1, 1) := by decide +kernel
theorem dJ3_checkIndex_8e157_6 : decode cJ3_checkIndex_8e157 6 = .ok (.if_icmp .lt 10, 3) := by decide +kernel
theorem dJ3_checkIndex_8e157_9 : decode cJ3_checkIndex_8e157 9 = .ok (.aload_n 2, 1) := by decide +kernel
theorem dJ3_checkIndex_8e157_10 : decode cJ3_checkIndex_8e157 10 = .ok (.iload_n 0, 1) := by decide +kernel
theorem dJ3_checkIndex_8e157_11 : decode cJ3_checkIndex_8e157 11 = .ok (.iload_n 1, 1) := by decide +kernel
theorem dJ3_checkIndex_8e157_12 : decode cJ3_checkIndex_8e157 12 = .ok (.invokestatic 95, 3) := by decide +kernel
theorem dJ3_checkIndex_8e157_15 : decode cJ3_checkIndex_8e157 15 = .ok (.athrow, 1) := by decide +kernel
theorem dJ3_checkIndex_8e157_16 : decode cJ3_checkIndex_8e157 16 = .ok (.iload_n 0, 1) := by decide +kernel
theorem dJ3_checkIndex_8e157_17 : decode cJ3_checkIndex_8e157 17 = .ok (.ireturn, 1) := by decide +kernel
set_option maxRecDepth 20000 in
theorem ggL_thing_X11_thing : GoodIn wsL_thing wsX11_thing := goodIn_ca (goodIn_ca (goodIn_r _ [7, 8, 9, 10, 11, 12, 13, 14, 15, 6, 16, 17, 18, 19, 20, 21, 22, 23, 24, 25, 26, 27, 28, 29, 30, 31, 32, 33, 34, 35, 36, 37, 38, 39, 40, 41, 42, 43, 44, 45, 46, 47, 48, 49, 50, 51, 52, 53, 54, 55, 56, 57, 58, 59, 60, 61, 62, 63, 64, 65, 66, 67, 68, 69, 70, 71, 72, 73, 74] rfl (by decide +kernel)) (goodIn_sub (fun _ h => List.mem_cons_of_mem _ (List.mem_append_left _ (List.mem_append_right _ h))) (by decide +kernel))) (goodIn_sub (fun _ h => List.mem_cons_of_mem _ (List.mem_append_right _ h)) (by decide +kernel))
set_option maxRecDepth 20000 in
theorem gL_thing_X11_thing : GoodIn wsL_thing (wsV RL 7 RX11 yX11_thing wsX11_thing) := goodIn_app (goodIn_of _ (by decide +kernel)) ggL_thing_X11_thing
theorem dL_thing_0 : decode cL_thing 0 = .ok (.aload 5, 2) := by decide +kernel
theorem dL_thing_2 : decode cL_thing 2 = .ok (.iconst 0, 1) := by decide +kernel
theorem dL_thing_3 : decode cL_thing 3 = .ok (.aload_n 0, 1) := by decide +kernel
theorem dL_thing_4 : decode cL_thing 4 = .ok (.iload_n 1, 1) := by decide +kernel
theorem dL_thing_5 : decode cL_thing 5 = .ok (.iload_n 2, 1) := by decide +kernel
theorem dL_thing_6 : decode cL_thing 6 = .ok (.iload_n 3, 1) := by decide +kernel
theorem dL_thing_7 : decode cL_thing 7 = .ok (.iload 4, 2) := by decide +kernel
theorem dL_thing_9 : decode cL_thing 9 = .ok (.invokevirtual 7, 3) := by decide +kernel
theorem dL_thing_12 : decode cL_thing 12 = .ok (.i2l, 1) := by decide +kernel
theorem dL_thing_13 : decode cL_thing 13 = .ok (.lastore, 1) := by decide +kernel
theorem dL_thing_14 : decode cL_thing 14 = .ok (.goto 11, 3) := by decide +kernel
theorem dL_thing_17 : decode cL_thing 17 = .ok (.astore 6, 2) := by decide +kernel
theorem dL_thing_19 : decode cL_thing 19 = .ok (.iconst 1, 1) := by decide +kernel
theorem dL_thing_20 : decode cL_thing 20 = .ok (.ireturn, 1) := by decide +kernel
theorem dL_thing_21 : decode cL_thing 21 = .ok (.astore 6, 2) := by decide +kernel
theorem dL_thing_23 : decode cL_thing 23 = .ok (.iconst 2, 1) := by decide +kernel
theorem dL_thing_24 : decode cL_thing 24 = .ok (.ireturn, 1) := by decide +kernel
theorem dL_thing_25 : decode cL_thing 25 = .ok (.iconst 0, 1) := by decide +kernel
theorem dL_thing_26 : decode cL_thing 26 = .ok (.ireturn, 1) := by decide +kernel
set_option maxRecDepth 20000 in
theorem ggL_price_X11_price : GoodIn wsL_price wsX11_price := goodIn_ca (goodIn_ca (goodIn_ca (goodIn_r _ [8, 9, 10, 11, 12, 13, 14, 15, 16, 7, 17, 18, 19, 20, 21, 22, 23, 24, 25, 26, 27, 28, 29, 30, 31, 32, 33, 34, 35, 36, 37, 38, 39, 40, 41, 42, 43, 44, 45, 46, 47, 48, 49, 50, 51, 52, 53, 54, 55, 56, 57, 58, 59, 60, 61, 62, 63, 64, 65, 66, 67] rfl (by decide +kernel)) (goodIn_sub (fun _ h => List.mem_cons_of_mem _ (List.mem_append_left _ (List.mem_append_left _ (List.mem_append_right _ h)))) (by decide +kernel))) (goodIn_sub (fun _ h => List.mem_cons_of_mem _ (List.mem_append_left _ (List.mem_append_right _ h))) (by decide +kernel))) (goodIn_sub (fun _ h => List.mem_cons_of_mem _ (List.mem_append_right _ h)) (by decide +kernel))
set_option maxRecDepth 20000 in
theorem gL_price_X11_price : GoodIn wsL_price (wsV RL 17 RX11 yX11_price wsX11_price) := goodIn_app (goodIn_of _ (by decide +kernel)) ggL_price_X11_price
theorem dL_price_0 : decode cL_price 0 = .ok (.aload 5, 2) := by decide +kernel
theorem dL_price_2 : decode cL_price 2 = .ok (.iconst 0, 1) := by decide +kernel
theorem dL_price_3 : decode cL_price 3 = .ok (.aload_n 0, 1) := by decide +kernel
theorem dL_price_4 : decode cL_price 4 = .ok (.iload_n 1, 1) := by decide +kernel
theorem dL_price_5 : decode cL_price 5 = .ok (.iload_n 2, 1) := by decide +kernel
theorem dL_price_6 : decode cL_price 6 = .ok (.iload_n 3, 1) := by decide +kernel
theorem dL_price_7 : decode cL_price 7 = .ok (.iload 4, 2) := by decide +kernel
theorem dL_price_9 : decode cL_price 9 = .ok (.invokevirtual 17, 3) := by decide +kernel
theorem dL_price_12 : decode cL_price 12 = .ok (.i2l, 1) := by decide +kernel
theorem dL_price_13 : decode cL_price 13 = .ok (.lastore, 1) := by decide +kernel
theorem dL_price_14 : decode cL_price 14 = .ok (.goto 15, 3) := by decide +kernel
theorem dL_price_17 : decode cL_price 17 = .ok (.astore 6, 2) := by decide +kernel
theorem dL_price_19 : decode cL_price 19 = .ok (.iconst 1, 1) := by decide +kernel
theorem dL_price_20 : decode cL_price 20 = .ok (.ireturn, 1) := by decide +kernel
theorem dL_price_21 : decode cL_price 21 = .ok (.astore 6, 2) := by decide +kernel
theorem dL_price_23 : decode cL_price 23 = .ok (.iconst 2, 1) := by decide +kernel
theorem dL_price_24 : decode cL_price 24 = .ok (.ireturn, 1) := by decide +kernel
theorem dL_price_25 : decode cL_price 25 = .ok (.astore 6, 2) := by decide +kernel
theorem dL_price_27 : decode cL_price 27 = .ok (.iconst 3, 1) := by decide +kernel
theorem dL_price_28 : decode cL_price 28 = .ok (.ireturn, 1) := by decide +kernel
theorem dL_price_29 : decode cL_price 29 = .ok (.iconst 0, 1) := by decide +kernel
theorem dL_price_30 : decode cL_price 30 = .ok (.ireturn, 1) := by decide +kernel
set_option maxRecDepth 20000 in
theorem ggL_costs_X11_costs : GoodIn wsL_costs wsX11_costs := goodIn_ca (goodIn_r _ [6, 7, 8, 9, 5, 10, 11, 12, 13, 14, 15, 16, 17, 18, 19, 20, 21, 22, 23, 24, 25, 26, 27, 28, 29, 30, 31, 32, 33, 34, 35, 36, 37, 38, 39, 40, 41, 42, 43, 44, 45, 46, 47, 48, 49, 50, 51, 52, 53, 54, 55, 56, 57, 58, 59] rfl (by decide +kernel)) (goodIn_sub (fun _ h => List.mem_cons_of_mem _ (List.mem_append_right _ h)) (by decide +kernel))
set_option maxRecDepth 20000 in
theorem gL_costs_X11_costs : GoodIn wsL_costs (wsV RL 22 RX11 yX11_costs wsX11_costs) := goodIn_app (goodIn_of _ (by decide +kernel)) ggL_costs_X11_costs
theorem dL_costs_0 : decode cL_costs 0 = .ok (.aload_n 3, 1) := by decide +kernel
theorem dL_costs_1 : decode cL_costs 1 = .ok (.iconst 0, 1) := by decide +kernel
theorem dL_costs_2 : decode cL_costs 2 = .ok (.aload_n 0, 1) := by decide +kernel
theorem dL_costs_3 : decode cL_costs 3 = .ok (.iload_n 1, 1) := by decide +kernel
theorem dL_costs_4 : decode cL_costs 4 = .ok (.iload_n 2, 1) := by decide +kernel
theorem dL_costs_5 : decode cL_costs 5 = .ok (.invokevirtual 22, 3) := by decide +kernel
theorem dL_costs_8 : decode cL_costs 8 = .ok (.i2l, 1) := by decide +kernel
theorem dL_costs_9 : decode cL_costs 9 = .ok (.lastore, 1) := by decide +kernel
theorem dL_costs_10 : decode cL_costs 10 = .ok (.goto 7, 3) := by decide +kernel
theorem dL_costs_13 : decode cL_costs 13 = .ok (.astore 4, 2) := by decide +kernel
theorem dL_costs_15 : decode cL_costs 15 = .ok (.iconst 1, 1) := by decide +kernel
theorem dL_costs_16 : decode cL_costs 16 = .ok (.ireturn, 1) := by decide +kernel
theorem dL_costs_17 : decode cL_costs 17 = .ok (.iconst 0, 1) := by decide +kernel
theorem dL_costs_18 : decode cL_costs 18 = .ok (.ireturn, 1) := by decide +kernel
set_option maxRecDepth 20000 in
theorem ggL_coming_X11_coming : GoodIn wsL_coming wsX11_coming := goodIn_ca (goodIn_ca (goodIn_ca (goodIn_r _ [8, 9, 10, 11, 12, 13, 14, 15, 16, 17, 18, 7, 19, 20, 21, 22, 23, 24, 25, 26, 27, 28, 29, 30, 31, 32, 33, 34, 35, 36, 37, 38, 39, 40, 41, 42, 43, 44, 45, 46, 47, 48, 49, 50, 51, 52, 53, 54, 55, 56, 57, 58, 59, 60, 61, 62, 63] rfl (by decide +kernel)) (goodIn_sub (fun _ h => List.mem_cons_of_mem _ (List.mem_append_left _ (List.mem_append_left _ (List.mem_append_right _ h)))) (by decide +kernel))) (goodIn_sub (fun _ h => List.mem_cons_of_mem _ (List.mem_append_left _ (List.mem_append_right _ h))) (by decide +kernel))) (goodIn_sub (fun _ h => List.mem_cons_of_mem _ (List.mem_append_right _ h)) (by decide +kernel))
set_option maxRecDepth 20000 in
theorem gL_coming_X11_coming : GoodIn wsL_coming (wsV RL 26 RX11 yX11_coming wsX11_coming) := goodIn_app (goodIn_of _ (by decide +kernel)) ggL_coming_X11_coming
theorem dL_coming_0 : decode cL_coming 0 = .ok (.aload 4, 2) := by decide +kernel
theorem dL_coming_2 : decode cL_coming 2 = .ok (.iconst 0, 1) := by decide +kernel
theorem dL_coming_3 : decode cL_coming 3 = .ok (.aload_n 0, 1) := by decide +kernel
theorem dL_coming_4 : decode cL_coming 4 = .ok (.iload_n 1, 1) := by decide +kernel
theorem dL_coming_5 : decode cL_coming 5 = .ok (.iload_n 2, 1) := by decide +kernel
theorem dL_coming_6 : decode cL_coming 6 = .ok (.iload_n 3, 1) := by decide +kernel
theorem dL_coming_7 : decode cL_coming 7 = .ok (.invokevirtual 26, 3) := by decide +kernel
theorem dL_coming_10 : decode cL_coming 10 = .ok (.i2l, 1) := by decide +kernel
theorem dL_coming_11 : decode cL_coming 11 = .ok (.lastore, 1) := by decide +kernel
theorem dL_coming_12 : decode cL_coming 12 = .ok (.goto 15, 3) := by decide +kernel
theorem dL_coming_15 : decode cL_coming 15 = .ok (.astore 5, 2) := by decide +kernel
theorem dL_coming_17 : decode cL_coming 17 = .ok (.iconst 1, 1) := by decide +kernel
theorem dL_coming_18 : decode cL_coming 18 = .ok (.ireturn, 1) := by decide +kernel
theorem dL_coming_19 : decode cL_coming 19 = .ok (.astore 5, 2) := by decide +kernel
theorem dL_coming_21 : decode cL_coming 21 = .ok (.iconst 2, 1) := by decide +kernel
theorem dL_coming_22 : decode cL_coming 22 = .ok (.ireturn, 1) := by decide +kernel
theorem dL_coming_23 : decode cL_coming 23 = .ok (.astore 5, 2) := by decide +kernel
theorem dL_coming_25 : decode cL_coming 25 = .ok (.iconst 3, 1) := by decide +kernel
theorem dL_coming_26 : decode cL_coming 26 = .ok (.ireturn, 1) := by decide +kernel
theorem dL_coming_27 : decode cL_coming 27 = .ok (.iconst 0, 1) := by decide +kernel
theorem dL_coming_28 : decode cL_coming 28 = .ok (.ireturn, 1) := by decide +kernel
set_option maxRecDepth 20000 in
theorem ggL_stock_X11_stock : GoodIn wsL_stock wsX11_stock := goodIn_ca (goodIn_r _ [6, 7, 8, 9, 10, 5, 11, 12, 13, 14, 15, 16, 17, 18, 19, 20, 21, 22, 23, 24, 25, 26, 27, 28, 29, 30, 31, 32, 33, 34, 35, 36, 37, 38, 39, 40, 41, 42, 43, 44, 45, 46, 47, 48, 49, 50, 51] rfl (by decide +kernel)) (goodIn_sub (fun _ h => List.mem_cons_of_mem _ (List.mem_append_right _ h)) (by decide +kernel))
set_option maxRecDepth 20000 in
theorem gL_stock_X11_stock : GoodIn wsL_stock (wsV RL 30 RX11 yX11_stock wsX11_stock) := goodIn_app (goodIn_of _ (by decide +kernel)) ggL_stock_X11_stock
theorem dL_stock_0 : decode cL_stock 0 = .ok (.aload_n 2, 1) := by decide +kernel
theorem dL_stock_1 : decode cL_stock 1 = .ok (.iconst 0, 1) := by decide +kernel
theorem dL_stock_2 : decode cL_stock 2 = .ok (.aload_n 0, 1) := by decide +kernel
theorem dL_stock_3 : decode cL_stock 3 = .ok (.iload_n 1, 1) := by decide +kernel
theorem dL_stock_4 : decode cL_stock 4 = .ok (.invokevirtual 30, 3) := by decide +kernel
theorem dL_stock_7 : decode cL_stock 7 = .ok (.i2l, 1) := by decide +kernel
theorem dL_stock_8 : decode cL_stock 8 = .ok (.lastore, 1) := by decide +kernel
theorem dL_stock_9 : decode cL_stock 9 = .ok (.goto 6, 3) := by decide +kernel
theorem dL_stock_12 : decode cL_stock 12 = .ok (.astore_n 3, 1) := by decide +kernel
theorem dL_stock_13 : decode cL_stock 13 = .ok (.iconst 1, 1) := by decide +kernel
theorem dL_stock_14 : decode cL_stock 14 = .ok (.ireturn, 1) := by decide +kernel
theorem dL_stock_15 : decode cL_stock 15 = .ok (.iconst 0, 1) := by decide +kernel
theorem dL_stock_16 : decode cL_stock 16 = .ok (.ireturn, 1) := by decide +kernel
set_option maxRecDepth 20000 in
theorem ggL_rules_X11_rules : GoodIn wsL_rules wsX11_rules := goodIn_ca (goodIn_r _ [6, 7, 8, 9, 10, 11, 12, 13, 14, 15, 16, 17, 18, 19, 20, 21, 22, 23, 24, 25, 26, 27, 28, 29, 30, 31, 32, 33, 34, 35, 36, 37, 38, 39, 5, 40, 41, 42, 43, 44, 45, 46, 47, 48, 49, 50, 51, 52, 53, 54, 55, 56, 57, 58, 59, 60, 61, 62, 63, 64, 65, 66, 67, 68, 69, 70, 71, 72, 73, 74, 75, 76, 77, 78, 79, 80, 81, 82, 83, 84, 85, 86, 87, 88, 89, 90, 91, 92, 93, 94, 95, 96, 97, 98, 99, 100, 101, 102, 103, 104, 105, 106, 107, 108, 109, 110, 111, 112, 113, 114, 115, 116, 117, 118, 119, 120, 121, 122, 123, 124, 125, 126, 127, 128, 129, 130, 131, 132, 133, 134, 135, 136, 137, 138, 139, 140, 141, 142, 143, 144, 145, 146, 147, 148, 149, 150, 151, 152, 153, 154, 155, 156, 157, 158, 159, 160, 161, 162, 163, 164, 165, 166, 167, 168, 169, 170, 171, 172, 173, 174, 175, 176, 177, 178, 179, 180, 181, 182, 183, 184, 185, 186, 187, 188, 189, 190, 191, 192, 193, 194, 195, 196, 197] rfl (by decide +kernel)) (goodIn_sub (fun _ h => List.mem_cons_of_mem _ (List.mem_append_right _ h)) (by decide +kernel))
set_option maxRecDepth 20000 in
theorem gL_rules_X11_rules : GoodIn wsL_rules (wsV RL 34 RX11 yX11_rules wsX11_rules) := goodIn_app (goodIn_of _ (by decide +kernel)) ggL_rules_X11_rules
theorem dL_rules_0 : decode cL_rules 0 = .ok (.aload_n 1, 1) := by decide +kernel
theorem dL_rules_1 : decode cL_rules 1 = .ok (.iconst 0, 1) := by decide +kernel
theorem dL_rules_2 : decode cL_rules 2 = .ok (.aload_n 0, 1) := by decide +kernel
theorem dL_rules_3 : decode cL_rules 3 = .ok (.invokevirtual 34, 3) := by decide +kernel
theorem dL_rules_6 : decode cL_rules 6 = .ok (.i2l, 1) := by decide +kernel
theorem dL_rules_7 : decode cL_rules 7 = .ok (.lastore, 1) := by decide +kernel
theorem dL_rules_8 : decode cL_rules 8 = .ok (.goto 6, 3) := by decide +kernel
theorem dL_rules_11 : decode cL_rules 11 = .ok (.astore_n 2, 1) := by decide +kernel
theorem dL_rules_12 : decode cL_rules 12 = .ok (.iconst 1, 1) := by decide +kernel
theorem dL_rules_13 : decode cL_rules 13 = .ok (.ireturn, 1) := by decide +kernel
theorem dL_rules_14 : decode cL_rules 14 = .ok (.iconst 0, 1) := by decide +kernel
theorem dL_rules_15 : decode cL_rules 15 = .ok (.ireturn, 1) := by decide +kernel
set_option maxRecDepth 20000 in
theorem ggL_says_X11_says : GoodIn wsL_says wsX11_says := goodIn_ca (goodIn_r _ [6, 7, 8, 9, 10, 11, 12, 5, 13, 14, 15, 16, 17, 18, 19, 20, 21, 22, 23, 24, 25, 26, 27, 28, 29, 30, 31] rfl (by decide +kernel)) (goodIn_sub (fun _ h => List.mem_cons_of_mem _ (List.mem_append_right _ h)) (by decide +kernel))
set_option maxRecDepth 20000 in
theorem gL_says_X11_says : GoodIn wsL_says (wsV RL 38 RX11 yX11_says wsX11_says) := goodIn_app (goodIn_of _ (by decide +kernel)) ggL_says_X11_says
theorem dL_says_0 : decode cL_says 0 = .ok (.aload_n 2, 1) := by decide +kernel
theorem dL_says_1 : decode cL_says 1 = .ok (.iconst 0, 1) := by decide +kernel
theorem dL_says_2 : decode cL_says 2 = .ok (.aload_n 0, 1) := by decide +kernel
theorem dL_says_3 : decode cL_says 3 = .ok (.iload_n 1, 1) := by decide +kernel
theorem dL_says_4 : decode cL_says 4 = .ok (.invokevirtual 38, 3) := by decide +kernel
theorem dL_says_7 : decode cL_says 7 = .ok (.i2l, 1) := by decide +kernel
theorem dL_says_8 : decode cL_says 8 = .ok (.lastore, 1) := by decide +kernel
theorem dL_says_9 : decode cL_says 9 = .ok (.goto 6, 3) := by decide +kernel
theorem dL_says_12 : decode cL_says 12 = .ok (.astore_n 3, 1) := by decide +kernel
theorem dL_says_13 : decode cL_says 13 = .ok (.iconst 1, 1) := by decide +kernel
theorem dL_says_14 : decode cL_says 14 = .ok (.ireturn, 1) := by decide +kernel
theorem dL_says_15 : decode cL_says 15 = .ok (.iconst 0, 1) := by decide +kernel
theorem dL_says_16 : decode cL_says 16 = .ok (.ireturn, 1) := by decide +kernel
set_option maxRecDepth 20000 in
theorem ggL_instead_X11_instead : GoodIn wsL_instead wsX11_instead := goodIn_ca (goodIn_r _ [6, 7, 8, 9, 10, 11, 12, 5, 13, 14, 15, 16, 17, 18, 19, 20, 21, 22, 23, 24, 25, 26, 27, 28, 29, 30, 31, 32, 33, 34, 35, 36, 37, 38, 39, 40, 41, 42, 43, 44, 45, 46, 47, 48, 49, 50, 51, 52, 53, 54, 55] rfl (by decide +kernel)) (goodIn_sub (fun _ h => List.mem_cons_of_mem _ (List.mem_append_right _ h)) (by decide +kernel))
set_option maxRecDepth 20000 in
theorem gL_instead_X11_instead : GoodIn wsL_instead (wsV RL 43 RX11 yX11_instead wsX11_instead) := goodIn_app (goodIn_of _ (by decide +kernel)) ggL_instead_X11_instead
theorem dL_instead_0 : decode cL_instead 0 = .ok (.aload_n 2, 1) := by decide +kernel
theorem dL_instead_1 : decode cL_instead 1 = .ok (.iconst 0, 1) := by decide +kernel
theorem dL_instead_2 : decode cL_instead 2 = .ok (.aload_n 0, 1) := by decide +kernel
theorem dL_instead_3 : decode cL_instead 3 = .ok (.iload_n 1, 1) := by decide +kernel
theorem dL_instead_4 : decode cL_instead 4 = .ok (.invokevirtual 43, 3) := by decide +kernel
theorem dL_instead_7 : decode cL_instead 7 = .ok (.i2l, 1) := by decide +kernel
theorem dL_instead_8 : decode cL_instead 8 = .ok (.lastore, 1) := by decide +kernel
theorem dL_instead_9 : decode cL_instead 9 = .ok (.goto 6, 3) := by decide +kernel
theorem dL_instead_12 : decode cL_instead 12 = .ok (.astore_n 3, 1) := by decide +kernel
theorem dL_instead_13 : decode cL_instead 13 = .ok (.iconst 1, 1) := by decide +kernel
theorem dL_instead_14 : decode cL_instead 14 = .ok (.ireturn, 1) := by decide +kernel
theorem dL_instead_15 : decode cL_instead 15 = .ok (.iconst 0, 1) := by decide +kernel
theorem dL_instead_16 : decode cL_instead 16 = .ok (.ireturn, 1) := by decide +kernel
set_option maxRecDepth 20000 in
theorem ggL_letter_X11_letter : GoodIn wsL_letter wsX11_letter := goodIn_ca (goodIn_ca (goodIn_r _ [7, 8, 9, 10, 11, 12, 13, 14, 15, 16, 17, 18, 19, 20, 21, 22, 23, 24, 25, 26, 27, 28, 29, 30, 31, 32, 33, 34, 35, 36, 37, 38, 39, 40, 41, 42, 43, 44, 45, 6, 46, 47, 48, 49, 50, 51, 52, 53, 54, 55, 56, 57, 58, 59, 60, 61, 62, 63, 64, 65, 66, 67, 68, 69, 70, 71, 72, 73, 74, 75, 76, 77, 78, 79, 80, 81, 82, 83, 84, 85, 86, 87, 88, 89, 90, 91, 92, 93, 94, 95, 96, 97, 98, 99, 100, 101, 102, 103, 104, 105, 106, 107, 108, 109, 110, 111, 112, 113, 114, 115, 116, 117, 118, 119, 120, 121, 122, 123, 124, 125, 126, 127, 128, 129, 130, 131, 132, 133, 134, 135, 136, 137, 138, 139, 140, 141, 142, 143, 144, 145, 146, 147, 148, 149, 150, 151, 152, 153, 154, 155, 156, 157, 158, 159, 160, 161, 162, 163, 164, 165, 166, 167, 168, 169, 170, 171, 172, 173, 174, 175, 176, 177, 178, 179, 180, 181, 182, 183, 184, 185, 186, 187, 188, 189, 190, 191, 192, 193, 194, 195, 196, 197, 198, 199, 200, 201, 202, 203, 204, 205, 206, 207, 208, 209, 210, 211, 212, 213, 214, 215, 216, 217, 218, 219, 220, 221, 222, 223, 224, 225, 226, 227, 228, 229, 230, 231, 232, 233, 234, 235, 236, 237, 238, 239, 240, 241, 242, 243, 244, 245, 246, 247, 248, 249, 250, 251, 252, 253, 254, 255, 256, 257, 258, 259, 260, 261, 262, 263, 264, 265, 266, 267, 268, 269, 270, 271, 272, 273, 274, 275, 276, 277, 278, 279, 280, 281, 282, 283, 284, 285, 286, 287, 288, 289, 290, 291, 292, 293, 294, 295, 296, 297, 298, 299, 300, 301, 302, 303, 304, 305, 306, 307, 308, 309, 310, 311, 312, 313, 314, 315, 316, 317, 318, 319, 320, 321] rfl (by decide +kernel)) (goodIn_sub (fun _ h => List.mem_cons_of_mem _ (List.mem_append_left _ (List.mem_append_right _ h))) (by decide +kernel))) (goodIn_sub (fun _ h => List.mem_cons_of_mem _ (List.mem_append_right _ h)) (by decide +kernel))
set_option maxRecDepth 20000 in
theorem gL_letter_X11_letter : GoodIn wsL_letter (wsV RL 46 RX11 yX11_letter wsX11_letter) := goodIn_app (goodIn_of _ (by decide +kernel)) ggL_letter_X11_letter
theorem dL_letter_0 : decode cL_letter 0 = .ok (.aload_n 1, 1) := by decide +kernel
theorem dL_letter_1 : decode cL_letter 1 = .ok (.iconst 0, 1) := by decide +kernel
theorem dL_letter_2 : decode cL_letter 2 = .ok (.aload_n 0, 1) := by decide +kernel
theorem dL_letter_3 : decode cL_letter 3 = .ok (.invokevirtual 46, 3) := by decide +kernel
theorem dL_letter_6 : decode cL_letter 6 = .ok (.i2l, 1) := by decide +kernel
theorem dL_letter_7 : decode cL_letter 7 = .ok (.lastore, 1) := by decide +kernel
theorem dL_letter_8 : decode cL_letter 8 = .ok (.goto 9, 3) := by decide +kernel
theorem dL_letter_11 : decode cL_letter 11 = .ok (.astore_n 2, 1) := by decide +kernel
theorem dL_letter_12 : decode cL_letter 12 = .ok (.iconst 1, 1) := by decide +kernel
theorem dL_letter_13 : decode cL_letter 13 = .ok (.ireturn, 1) := by decide +kernel
theorem dL_letter_14 : decode cL_letter 14 = .ok (.astore_n 2, 1) := by decide +kernel
theorem dL_letter_15 : decode cL_letter 15 = .ok (.iconst 2, 1) := by decide +kernel
theorem dL_letter_16 : decode cL_letter 16 = .ok (.ireturn, 1) := by decide +kernel
theorem dL_letter_17 : decode cL_letter 17 = .ok (.iconst 0, 1) := by decide +kernel
theorem dL_letter_18 : decode cL_letter 18 = .ok (.ireturn, 1) := by decide +kernel
set_option maxRecDepth 20000 in
theorem ggL_doubt_X11_doubt : GoodIn wsL_doubt wsX11_doubt := goodIn_ca (goodIn_ca (goodIn_r _ [7, 8, 9, 10, 11, 12, 13, 14, 15, 16, 17, 18, 6, 19, 20, 21, 22, 23, 24, 25, 26, 27, 28, 29, 30, 31, 32, 33, 34, 35, 36, 37, 38, 39, 40, 41, 42, 43, 44, 45, 46, 47, 48, 49, 50, 51, 52] rfl (by decide +kernel)) (goodIn_sub (fun _ h => List.mem_cons_of_mem _ (List.mem_append_left _ (List.mem_append_right _ h))) (by decide +kernel))) (goodIn_sub (fun _ h => List.mem_cons_of_mem _ (List.mem_append_right _ h)) (by decide +kernel))
set_option maxRecDepth 20000 in
theorem gL_doubt_X11_doubt : GoodIn wsL_doubt (wsV RL 49 RX11 yX11_doubt wsX11_doubt) := goodIn_app (goodIn_of _ (by decide +kernel)) ggL_doubt_X11_doubt
theorem dL_doubt_0 : decode cL_doubt 0 = .ok (.aload_n 3, 1) := by decide +kernel
theorem dL_doubt_1 : decode cL_doubt 1 = .ok (.iconst 0, 1) := by decide +kernel
theorem dL_doubt_2 : decode cL_doubt 2 = .ok (.aload_n 0, 1) := by decide +kernel
theorem dL_doubt_3 : decode cL_doubt 3 = .ok (.iload_n 1, 1) := by decide +kernel
theorem dL_doubt_4 : decode cL_doubt 4 = .ok (.iload_n 2, 1) := by decide +kernel
theorem dL_doubt_5 : decode cL_doubt 5 = .ok (.invokevirtual 49, 3) := by decide +kernel
theorem dL_doubt_8 : decode cL_doubt 8 = .ok (.i2l, 1) := by decide +kernel
theorem dL_doubt_9 : decode cL_doubt 9 = .ok (.lastore, 1) := by decide +kernel
theorem dL_doubt_10 : decode cL_doubt 10 = .ok (.goto 11, 3) := by decide +kernel
theorem dL_doubt_13 : decode cL_doubt 13 = .ok (.astore 4, 2) := by decide +kernel
theorem dL_doubt_15 : decode cL_doubt 15 = .ok (.iconst 1, 1) := by decide +kernel
theorem dL_doubt_16 : decode cL_doubt 16 = .ok (.ireturn, 1) := by decide +kernel
theorem dL_doubt_17 : decode cL_doubt 17 = .ok (.astore 4, 2) := by decide +kernel
theorem dL_doubt_19 : decode cL_doubt 19 = .ok (.iconst 2, 1) := by decide +kernel
theorem dL_doubt_20 : decode cL_doubt 20 = .ok (.ireturn, 1) := by decide +kernel
theorem dL_doubt_21 : decode cL_doubt 21 = .ok (.iconst 0, 1) := by decide +kernel
theorem dL_doubt_22 : decode cL_doubt 22 = .ok (.ireturn, 1) := by decide +kernel
set_option maxRecDepth 20000 in
theorem ggL_settle_X11_settle : GoodIn wsL_settle wsX11_settle := goodIn_ca (goodIn_ca (goodIn_ca (goodIn_r _ [8, 9, 10, 11, 12, 13, 14, 7, 15, 16, 17, 18, 19, 20, 21, 22, 23, 24, 25, 26, 27, 28, 29, 30, 31, 32, 33, 34, 35, 36, 37, 38, 39, 40, 41, 42, 43, 44, 45, 46, 47, 48, 49, 50, 51, 52, 53, 54, 55, 56, 57, 58, 59, 60, 61, 62, 63, 64, 65, 66, 67, 68, 69, 70, 71, 72, 73, 74, 75, 76, 77, 78, 79, 80, 81, 82, 83, 84, 85, 86, 87, 88, 89, 90, 91, 92, 93, 94, 95, 96, 97, 98, 99, 100, 101, 102, 103, 104, 105, 106, 107, 108, 109, 110, 111, 112, 113, 114, 115, 116, 117, 118, 119, 120, 121, 122, 123, 124, 125, 126, 127, 128, 129, 130, 131, 132, 133, 134, 135, 136, 137, 138, 139, 140, 141, 142, 143, 144, 145, 146, 147, 148, 149, 150, 151, 152, 153, 154, 155, 156, 157, 158, 159, 160, 161, 162, 163] rfl (by decide +kernel)) (goodIn_sub (fun _ h => List.mem_cons_of_mem _ (List.mem_append_left _ (List.mem_append_left _ (List.mem_append_right _ h)))) (by decide +kernel))) (goodIn_sub (fun _ h => List.mem_cons_of_mem _ (List.mem_append_left _ (List.mem_append_right _ h))) (by decide +kernel))) (goodIn_sub (fun _ h => List.mem_cons_of_mem _ (List.mem_append_right _ h)) (by decide +kernel))
set_option maxRecDepth 20000 in
theorem gL_settle_X11_settle : GoodIn wsL_settle (wsV RL 52 RX11 yX11_settle wsX11_settle) := goodIn_app (goodIn_of _ (by decide +kernel)) ggL_settle_X11_settle
theorem dL_settle_0 : decode cL_settle 0 = .ok (.aload_n 3, 1) := by decide +kernel
theorem dL_settle_1 : decode cL_settle 1 = .ok (.iconst 0, 1) := by decide +kernel
theorem dL_settle_2 : decode cL_settle 2 = .ok (.aload_n 0, 1) := by decide +kernel
theorem dL_settle_3 : decode cL_settle 3 = .ok (.iload_n 1, 1) := by decide +kernel
theorem dL_settle_4 : decode cL_settle 4 = .ok (.iload_n 2, 1) := by decide +kernel
theorem dL_settle_5 : decode cL_settle 5 = .ok (.invokevirtual 52, 3) := by decide +kernel
theorem dL_settle_8 : decode cL_settle 8 = .ok (.i2l, 1) := by decide +kernel
theorem dL_settle_9 : decode cL_settle 9 = .ok (.lastore, 1) := by decide +kernel
theorem dL_settle_10 : decode cL_settle 10 = .ok (.goto 15, 3) := by decide +kernel
theorem dL_settle_13 : decode cL_settle 13 = .ok (.astore 4, 2) := by decide +kernel
theorem dL_settle_15 : decode cL_settle 15 = .ok (.iconst 1, 1) := by decide +kernel
theorem dL_settle_16 : decode cL_settle 16 = .ok (.ireturn, 1) := by decide +kernel
theorem dL_settle_17 : decode cL_settle 17 = .ok (.astore 4, 2) := by decide +kernel
theorem dL_settle_19 : decode cL_settle 19 = .ok (.iconst 2, 1) := by decide +kernel
theorem dL_settle_20 : decode cL_settle 20 = .ok (.ireturn, 1) := by decide +kernel
theorem dL_settle_21 : decode cL_settle 21 = .ok (.astore 4, 2) := by decide +kernel
theorem dL_settle_23 : decode cL_settle 23 = .ok (.iconst 3, 1) := by decide +kernel
theorem dL_settle_24 : decode cL_settle 24 = .ok (.ireturn, 1) := by decide +kernel
theorem dL_settle_25 : decode cL_settle 25 = .ok (.iconst 0, 1) := by decide +kernel
theorem dL_settle_26 : decode cL_settle 26 = .ok (.ireturn, 1) := by decide +kernel
set_option maxRecDepth 20000 in
theorem ggL_days_X11_days : GoodIn wsL_days wsX11_days := goodIn_ca (goodIn_r _ [6, 7, 8, 9, 10, 11, 5, 12, 13, 14, 15, 16, 17, 18, 19, 20, 21, 22, 23, 24, 25, 26, 27, 28, 29, 30, 31, 32, 33, 34, 35, 36, 37, 38, 39, 40, 41, 42, 43, 44, 45, 46, 47, 48, 49, 50, 51, 52, 53, 54, 55, 56, 57, 58, 59, 60, 61, 62, 63, 64, 65, 66, 67, 68, 69, 70, 71, 72, 73, 74, 75, 76, 77, 78, 79, 80, 81, 82, 83, 84, 85, 86, 87, 88, 89, 90, 91, 92, 93, 94, 95, 96, 97, 98, 99, 100, 101, 102, 103, 104, 105, 106, 107, 108, 109, 110, 111, 112, 113, 114, 115, 116, 117, 118, 119, 120, 121, 122, 123, 124, 125, 126, 127, 128, 129, 130, 131, 132, 133, 134, 135, 136, 137, 138, 139, 140, 141, 142, 143, 144, 145, 146, 147, 148, 149, 150, 151, 152, 153, 154, 155, 156, 157, 158, 159, 160, 161, 162, 163, 164, 165, 166, 167, 168, 169, 170, 171, 172, 173, 174, 175, 176, 177, 178] rfl (by decide +kernel)) (goodIn_sub (fun _ h => List.mem_cons_of_mem _ (List.mem_append_right _ h)) (by decide +kernel))
set_option maxRecDepth 20000 in
theorem gL_days_X11_days : GoodIn wsL_days (wsV RL 58 RX11 yX11_days wsX11_days) := goodIn_app (goodIn_of _ (by decide +kernel)) ggL_days_X11_days
theorem dL_days_0 : decode cL_days 0 = .ok (.aload_n 2, 1) := by decide +kernel
theorem dL_days_1 : decode cL_days 1 = .ok (.iconst 0, 1) := by decide +kernel
theorem dL_days_2 : decode cL_days 2 = .ok (.aload_n 0, 1) := by decide +kernel
theorem dL_days_3 : decode cL_days 3 = .ok (.iload_n 1, 1) := by decide +kernel
theorem dL_days_4 : decode cL_days 4 = .ok (.invokevirtual 58, 3) := by decide +kernel
theorem dL_days_7 : decode cL_days 7 = .ok (.i2l, 1) := by decide +kernel
theorem dL_days_8 : decode cL_days 8 = .ok (.lastore, 1) := by decide +kernel
theorem dL_days_9 : decode cL_days 9 = .ok (.goto 6, 3) := by decide +kernel
theorem dL_days_12 : decode cL_days 12 = .ok (.astore_n 3, 1) := by decide +kernel
theorem dL_days_13 : decode cL_days 13 = .ok (.iconst 1, 1) := by decide +kernel
theorem dL_days_14 : decode cL_days 14 = .ok (.ireturn, 1) := by decide +kernel
theorem dL_days_15 : decode cL_days 15 = .ok (.iconst 0, 1) := by decide +kernel
theorem dL_days_16 : decode cL_days 16 = .ok (.ireturn, 1) := by decide +kernel
set_option maxRecDepth 20000 in
theorem ggL_order_X11_order : GoodIn wsL_order wsX11_order := goodIn_ca (goodIn_ca (goodIn_r _ [7, 8, 9, 10, 11, 12, 13, 14, 15, 16, 17, 6, 18, 19, 20, 21, 22, 23, 24, 25, 26, 27, 28, 29, 30, 31, 32, 33, 34, 35, 36, 37, 38, 39, 40, 41, 42, 43, 44, 45, 46, 47, 48, 49, 50, 51, 52, 53, 54, 55, 56, 57, 58, 59, 60, 61, 62, 63, 64, 65, 66, 67, 68, 69, 70, 71, 72, 73] rfl (by decide +kernel)) (goodIn_sub (fun _ h => List.mem_cons_of_mem _ (List.mem_append_left _ (List.mem_append_right _ h))) (by decide +kernel))) (goodIn_sub (fun _ h => List.mem_cons_of_mem _ (List.mem_append_right _ h)) (by decide +kernel))
set_option maxRecDepth 20000 in
theorem gL_order_X11_order : GoodIn wsL_order (wsV RL 61 RX11 yX11_order wsX11_order) := goodIn_app (goodIn_of _ (by decide +kernel)) ggL_order_X11_order
theorem dL_order_0 : decode cL_order 0 = .ok (.aload_n 3, 1) := by decide +kernel
theorem dL_order_1 : decode cL_order 1 = .ok (.iconst 0, 1) := by decide +kernel
theorem dL_order_2 : decode cL_order 2 = .ok (.aload_n 0, 1) := by decide +kernel
theorem dL_order_3 : decode cL_order 3 = .ok (.iload_n 1, 1) := by decide +kernel
theorem dL_order_4 : decode cL_order 4 = .ok (.iload_n 2, 1) := by decide +kernel
theorem dL_order_5 : decode cL_order 5 = .ok (.invokevirtual 61, 3) := by decide +kernel
theorem dL_order_8 : decode cL_order 8 = .ok (.i2l, 1) := by decide +kernel
theorem dL_order_9 : decode cL_order 9 = .ok (.lastore, 1) := by decide +kernel
theorem dL_order_10 : decode cL_order 10 = .ok (.goto 11, 3) := by decide +kernel
theorem dL_order_13 : decode cL_order 13 = .ok (.astore 4, 2) := by decide +kernel
theorem dL_order_15 : decode cL_order 15 = .ok (.iconst 1, 1) := by decide +kernel
theorem dL_order_16 : decode cL_order 16 = .ok (.ireturn, 1) := by decide +kernel
theorem dL_order_17 : decode cL_order 17 = .ok (.astore 4, 2) := by decide +kernel
theorem dL_order_19 : decode cL_order 19 = .ok (.iconst 2, 1) := by decide +kernel
theorem dL_order_20 : decode cL_order 20 = .ok (.ireturn, 1) := by decide +kernel
theorem dL_order_21 : decode cL_order 21 = .ok (.iconst 0, 1) := by decide +kernel
theorem dL_order_22 : decode cL_order 22 = .ok (.ireturn, 1) := by decide +kernel
set_option maxRecDepth 20000 in
theorem ggL_want_X11_want : GoodIn wsL_want wsX11_want := goodIn_ca (goodIn_ca (goodIn_r _ [7, 8, 9, 10, 11, 12, 13, 14, 15, 16, 17, 18, 19, 20, 21, 22, 23, 6, 24, 25, 26, 27, 28, 29, 30, 31, 32, 33, 34, 35, 36, 37, 38, 39, 40, 41, 42, 43, 44, 45, 46, 47, 48, 49, 50, 51, 52, 53, 54, 55, 56, 57, 58, 59, 60, 61, 62, 63, 64, 65, 66, 67, 68, 69, 70, 71, 72, 73, 74, 75, 76, 77, 78] rfl (by decide +kernel)) (goodIn_sub (fun _ h => List.mem_cons_of_mem _ (List.mem_append_left _ (List.mem_append_right _ h))) (by decide +kernel))) (goodIn_sub (fun _ h => List.mem_cons_of_mem _ (List.mem_append_right _ h)) (by decide +kernel))
set_option maxRecDepth 20000 in
theorem gL_want_X11_want : GoodIn wsL_want (wsV RL 64 RX11 yX11_want wsX11_want) := goodIn_app (goodIn_of _ (by decide +kernel)) ggL_want_X11_want
theorem dL_want_0 : decode cL_want 0 = .ok (.aload 4, 2) := by decide +kernel
theorem dL_want_2 : decode cL_want 2 = .ok (.iconst 0, 1) := by decide +kernel
theorem dL_want_3 : decode cL_want 3 = .ok (.aload_n 0, 1) := by decide +kernel
theorem dL_want_4 : decode cL_want 4 = .ok (.iload_n 1, 1) := by decide +kernel
theorem dL_want_5 : decode cL_want 5 = .ok (.iload_n 2, 1) := by decide +kernel
theorem dL_want_6 : decode cL_want 6 = .ok (.iload_n 3, 1) := by decide +kernel
theorem dL_want_7 : decode cL_want 7 = .ok (.invokevirtual 64, 3) := by decide +kernel
theorem dL_want_10 : decode cL_want 10 = .ok (.i2l, 1) := by decide +kernel
theorem dL_want_11 : decode cL_want 11 = .ok (.lastore, 1) := by decide +kernel
theorem dL_want_12 : decode cL_want 12 = .ok (.goto 11, 3) := by decide +kernel
theorem dL_want_15 : decode cL_want 15 = .ok (.astore 5, 2) := by decide +kernel
theorem dL_want_17 : decode cL_want 17 = .ok (.iconst 1, 1) := by decide +kernel
theorem dL_want_18 : decode cL_want 18 = .ok (.ireturn, 1) := by decide +kernel
theorem dL_want_19 : decode cL_want 19 = .ok (.astore 5, 2) := by decide +kernel
theorem dL_want_21 : decode cL_want 21 = .ok (.iconst 2, 1) := by decide +kernel
theorem dL_want_22 : decode cL_want 22 = .ok (.ireturn, 1) := by decide +kernel
theorem dL_want_23 : decode cL_want 23 = .ok (.iconst 0, 1) := by decide +kernel
theorem dL_want_24 : decode cL_want 24 = .ok (.ireturn, 1) := by decide +kernel
set_option maxRecDepth 20000 in
theorem ggL_back_X11_back : GoodIn wsL_back wsX11_back := goodIn_ca (goodIn_ca (goodIn_r _ [7, 8, 9, 10, 11, 12, 13, 14, 15, 16, 17, 18, 6, 19, 20, 21, 22, 23, 24, 25, 26, 27, 28, 29, 30, 31, 32, 33, 34, 35, 36, 37, 38, 39, 40, 41, 42, 43, 44, 45, 46, 47, 48, 49, 50, 51, 52, 53, 54, 55, 56, 57, 58, 59, 60, 61, 62, 63, 64, 65, 66, 67, 68, 69, 70, 71, 72, 73, 74, 75, 76, 77, 78, 79, 80, 81, 82, 83, 84, 85, 86, 87, 88, 89, 90, 91, 92, 93, 94, 95] rfl (by decide +kernel)) (goodIn_sub (fun _ h => List.mem_cons_of_mem _ (List.mem_append_left _ (List.mem_append_right _ h))) (by decide +kernel))) (goodIn_sub (fun _ h => List.mem_cons_of_mem _ (List.mem_append_right _ h)) (by decide +kernel))
set_option maxRecDepth 20000 in
theorem gL_back_X11_back : GoodIn wsL_back (wsV RL 67 RX11 yX11_back wsX11_back) := goodIn_app (goodIn_of _ (by decide +kernel)) ggL_back_X11_back
theorem dL_back_0 : decode cL_back 0 = .ok (.aload 4, 2) := by decide +kernel
theorem dL_back_2 : decode cL_back 2 = .ok (.iconst 0, 1) := by decide +kernel
theorem dL_back_3 : decode cL_back 3 = .ok (.aload_n 0, 1) := by decide +kernel
theorem dL_back_4 : decode cL_back 4 = .ok (.iload_n 1, 1) := by decide +kernel
theorem dL_back_5 : decode cL_back 5 = .ok (.iload_n 2, 1) := by decide +kernel
theorem dL_back_6 : decode cL_back 6 = .ok (.iload_n 3, 1) := by decide +kernel
theorem dL_back_7 : decode cL_back 7 = .ok (.invokevirtual 67, 3) := by decide +kernel
theorem dL_back_10 : decode cL_back 10 = .ok (.ifCond .eq 7, 3) := by decide +kernel
theorem dL_back_13 : decode cL_back 13 = .ok (.lconst 1, 1) := by decide +kernel
theorem dL_back_14 : decode cL_back 14 = .ok (.goto 4, 3) := by decide +kernel
theorem dL_back_17 : decode cL_back 17 = .ok (.lconst 0, 1) := by decide +kernel
theorem dL_back_18 : decode cL_back 18 = .ok (.lastore, 1) := by decide +kernel
theorem dL_back_19 : decode cL_back 19 = .ok (.goto 11, 3) := by decide +kernel
theorem dL_back_22 : decode cL_back 22 = .ok (.astore 5, 2) := by decide +kernel
theorem dL_back_24 : decode cL_back 24 = .ok (.iconst 1, 1) := by decide +kernel
theorem dL_back_25 : decode cL_back 25 = .ok (.ireturn, 1) := by decide +kernel
theorem dL_back_26 : decode cL_back 26 = .ok (.astore 5, 2) := by decide +kernel
theorem dL_back_28 : decode cL_back 28 = .ok (.iconst 2, 1) := by decide +kernel
theorem dL_back_29 : decode cL_back 29 = .ok (.ireturn, 1) := by decide +kernel
theorem dL_back_30 : decode cL_back 30 = .ok (.iconst 0, 1) := by decide +kernel
theorem dL_back_31 : decode cL_back 31 = .ok (.ireturn, 1) := by decide +kernel
set_option maxRecDepth 20000 in
theorem ggL_sending_X11_sending : GoodIn wsL_sending wsX11_sending := goodIn_ca (goodIn_ca (goodIn_r _ [7, 8, 9, 10, 11, 12, 13, 14, 15, 16, 17, 18, 19, 6, 20, 21, 22, 23, 24, 25, 26, 27, 28, 29, 30, 31, 32, 33, 34, 35, 36, 37, 38, 39, 40] rfl (by decide +kernel)) (goodIn_sub (fun _ h => List.mem_cons_of_mem _ (List.mem_append_left _ (List.mem_append_right _ h))) (by decide +kernel))) (goodIn_sub (fun _ h => List.mem_cons_of_mem _ (List.mem_append_right _ h)) (by decide +kernel))
set_option maxRecDepth 20000 in
theorem gL_sending_X11_sending : GoodIn wsL_sending (wsV RL 71 RX11 yX11_sending wsX11_sending) := goodIn_app (goodIn_of _ (by decide +kernel)) ggL_sending_X11_sending
theorem dL_sending_0 : decode cL_sending 0 = .ok (.aload_n 3, 1) := by decide +kernel
theorem dL_sending_1 : decode cL_sending 1 = .ok (.iconst 0, 1) := by decide +kernel
theorem dL_sending_2 : decode cL_sending 2 = .ok (.aload_n 0, 1) := by decide +kernel
theorem dL_sending_3 : decode cL_sending 3 = .ok (.iload_n 1, 1) := by decide +kernel
theorem dL_sending_4 : decode cL_sending 4 = .ok (.iload_n 2, 1) := by decide +kernel
theorem dL_sending_5 : decode cL_sending 5 = .ok (.invokevirtual 71, 3) := by decide +kernel
theorem dL_sending_8 : decode cL_sending 8 = .ok (.i2l, 1) := by decide +kernel
theorem dL_sending_9 : decode cL_sending 9 = .ok (.lastore, 1) := by decide +kernel
theorem dL_sending_10 : decode cL_sending 10 = .ok (.goto 11, 3) := by decide +kernel
theorem dL_sending_13 : decode cL_sending 13 = .ok (.astore 4, 2) := by decide +kernel
theorem dL_sending_15 : decode cL_sending 15 = .ok (.iconst 1, 1) := by decide +kernel
theorem dL_sending_16 : decode cL_sending 16 = .ok (.ireturn, 1) := by decide +kernel
theorem dL_sending_17 : decode cL_sending 17 = .ok (.astore 4, 2) := by decide +kernel
theorem dL_sending_19 : decode cL_sending 19 = .ok (.iconst 2, 1) := by decide +kernel
theorem dL_sending_20 : decode cL_sending 20 = .ok (.ireturn, 1) := by decide +kernel
theorem dL_sending_21 : decode cL_sending 21 = .ok (.iconst 0, 1) := by decide +kernel
theorem dL_sending_22 : decode cL_sending 22 = .ok (.ireturn, 1) := by decide +kernel
set_option maxRecDepth 20000 in
theorem ggL_pick_X11_pick : GoodIn wsL_pick wsX11_pick := goodIn_ca (goodIn_r _ [6, 7, 8, 9, 10, 5, 11, 12, 13, 14, 15, 16, 17, 18, 19, 20, 21, 22, 23, 24, 25, 26, 27, 28, 29, 30, 31, 32, 33, 34, 35, 36, 37, 38, 39, 40, 41, 42, 43, 44, 45, 46, 47, 48, 49, 50, 51, 52, 53, 54] rfl (by decide +kernel)) (goodIn_sub (fun _ h => List.mem_cons_of_mem _ (List.mem_append_right _ h)) (by decide +kernel))
set_option maxRecDepth 20000 in
theorem gL_pick_X11_pick : GoodIn wsL_pick (wsV RL 74 RX11 yX11_pick wsX11_pick) := goodIn_app (goodIn_of _ (by decide +kernel)) ggL_pick_X11_pick
theorem dL_pick_0 : decode cL_pick 0 = .ok (.aload_n 2, 1) := by decide +kernel
theorem dL_pick_1 : decode cL_pick 1 = .ok (.iconst 0, 1) := by decide +kernel
theorem dL_pick_2 : decode cL_pick 2 = .ok (.aload_n 0, 1) := by decide +kernel
theorem dL_pick_3 : decode cL_pick 3 = .ok (.iload_n 1, 1) := by decide +kernel
theorem dL_pick_4 : decode cL_pick 4 = .ok (.invokevirtual 74, 3) := by decide +kernel
theorem dL_pick_7 : decode cL_pick 7 = .ok (.i2l, 1) := by decide +kernel
theorem dL_pick_8 : decode cL_pick 8 = .ok (.lastore, 1) := by decide +kernel
theorem dL_pick_9 : decode cL_pick 9 = .ok (.goto 6, 3) := by decide +kernel
theorem dL_pick_12 : decode cL_pick 12 = .ok (.astore_n 3, 1) := by decide +kernel
theorem dL_pick_13 : decode cL_pick 13 = .ok (.iconst 1, 1) := by decide +kernel
theorem dL_pick_14 : decode cL_pick 14 = .ok (.ireturn, 1) := by decide +kernel
theorem dL_pick_15 : decode cL_pick 15 = .ok (.iconst 0, 1) := by decide +kernel
theorem dL_pick_16 : decode cL_pick 16 = .ok (.ireturn, 1) := by decide +kernel
set_option maxRecDepth 20000 in
theorem ggL_foretold_X11_foretold : GoodIn wsL_foretold wsX11_foretold := goodIn_ca (goodIn_ca (goodIn_ca (goodIn_r _ [8, 9, 10, 11, 12, 13, 14, 15, 16, 17, 18, 19, 20, 21, 7, 22, 23, 24, 25, 26, 27, 28, 29, 30, 31, 32, 33, 34, 35, 36, 37, 38, 39, 40, 41, 42, 43, 44, 45, 46, 47, 48, 49, 50, 51, 52, 53, 54, 55, 56, 57, 58, 59, 60, 61, 62, 63, 64, 65, 66, 67, 68, 69, 70, 71, 72, 73, 74, 75, 76, 77, 78, 79, 80, 81, 82, 83, 84, 85, 86, 87, 88, 89, 90, 91, 92, 93, 94, 95, 96, 97, 98, 99, 100, 101, 102, 103, 104, 105, 106, 107, 108, 109, 110] rfl (by decide +kernel)) (goodIn_sub (fun _ h => List.mem_cons_of_mem _ (List.mem_append_left _ (List.mem_append_left _ (List.mem_append_right _ h)))) (by decide +kernel))) (goodIn_sub (fun _ h => List.mem_cons_of_mem _ (List.mem_append_left _ (List.mem_append_right _ h))) (by decide +kernel))) (goodIn_sub (fun _ h => List.mem_cons_of_mem _ (List.mem_append_right _ h)) (by decide +kernel))
set_option maxRecDepth 20000 in
theorem gL_foretold_X11_foretold : GoodIn wsL_foretold (wsV RL 77 RX11 yX11_foretold wsX11_foretold) := goodIn_app (goodIn_of _ (by decide +kernel)) ggL_foretold_X11_foretold
theorem dL_foretold_0 : decode cL_foretold 0 = .ok (.aload 6, 2) := by decide +kernel
theorem dL_foretold_2 : decode cL_foretold 2 = .ok (.iconst 0, 1) := by decide +kernel
theorem dL_foretold_3 : decode cL_foretold 3 = .ok (.aload_n 0, 1) := by decide +kernel
theorem dL_foretold_4 : decode cL_foretold 4 = .ok (.iload_n 1, 1) := by decide +kernel
theorem dL_foretold_5 : decode cL_foretold 5 = .ok (.iload_n 2, 1) := by decide +kernel
theorem dL_foretold_6 : decode cL_foretold 6 = .ok (.iload_n 3, 1) := by decide +kernel
theorem dL_foretold_7 : decode cL_foretold 7 = .ok (.iload 4, 2) := by decide +kernel
theorem dL_foretold_9 : decode cL_foretold 9 = .ok (.iload 5, 2) := by decide +kernel
theorem dL_foretold_11 : decode cL_foretold 11 = .ok (.invokevirtual 77, 3) := by decide +kernel
theorem dL_foretold_14 : decode cL_foretold 14 = .ok (.i2l, 1) := by decide +kernel
theorem dL_foretold_15 : decode cL_foretold 15 = .ok (.lastore, 1) := by decide +kernel
theorem dL_foretold_16 : decode cL_foretold 16 = .ok (.goto 15, 3) := by decide +kernel
theorem dL_foretold_19 : decode cL_foretold 19 = .ok (.astore 7, 2) := by decide +kernel
theorem dL_foretold_21 : decode cL_foretold 21 = .ok (.iconst 1, 1) := by decide +kernel
theorem dL_foretold_22 : decode cL_foretold 22 = .ok (.ireturn, 1) := by decide +kernel
theorem dL_foretold_23 : decode cL_foretold 23 = .ok (.astore 7, 2) := by decide +kernel
theorem dL_foretold_25 : decode cL_foretold 25 = .ok (.iconst 2, 1) := by decide +kernel
theorem dL_foretold_26 : decode cL_foretold 26 = .ok (.ireturn, 1) := by decide +kernel
theorem dL_foretold_27 : decode cL_foretold 27 = .ok (.astore 7, 2) := by decide +kernel
theorem dL_foretold_29 : decode cL_foretold 29 = .ok (.iconst 3, 1) := by decide +kernel
theorem dL_foretold_30 : decode cL_foretold 30 = .ok (.ireturn, 1) := by decide +kernel
theorem dL_foretold_31 : decode cL_foretold 31 = .ok (.iconst 0, 1) := by decide +kernel
theorem dL_foretold_32 : decode cL_foretold 32 = .ok (.ireturn, 1) := by decide +kernel
abbrev vwCl : List vw_C := [(RX0, TX0, 2), (RX1, TX1, 4), (RX2, TX2, 10), (RX3, TX3, 6), (RX4, TX4, 5), (RX5, TX5, 2), (RX6, TX6, 4), (RX7, TX7, 4), (RX8, TX8, 10), (RX9, TX9, 6), (RX10, TX10, 10), (RX11, TX11, 16), (RX12, TX12, 71)]

