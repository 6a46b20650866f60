theorem dX12_wrong_2 : decode cX12_wrong 2 = .ok (.putfield 61, 3) := by decide +kernel
theorem dX12_wrong_5 : decode cX12_wrong 5 = .ok (.iconst 0, 1) := by decide +kernel
theorem dX12_wrong_6 : decode cX12_wrong 6 = .ok (.ireturn, 1) := by decide +kernel
theorem dX12_sign_0 : decode cX12_sign 0 = .ok (.aload_n 0, 1) := by decide +kernel
theorem dX12_sign_1 : decode cX12_sign 1 = .ok (.getfield 206, 3) := by decide +kernel
theorem dX12_sign_4 : decode cX12_sign 4 = .ok (.aload_n 0, 1) := by decide +kernel
theorem dX12_sign_5 : decode cX12_sign 5 = .ok (.getfield 209, 3) := by decide +kernel
theorem dX12_sign_8 : decode cX12_sign 8 = .ok (.if_icmp .ge 30, 3) := by decide +kernel
theorem dX12_sign_11 : decode cX12_sign 11 = .ok (.aload_n 0, 1) := by decide +kernel
theorem dX12_sign_12 : decode cX12_sign 12 = .ok (.getfield 58, 3) := by decide +kernel
theorem dX12_sign_15 : decode cX12_sign 15 = .ok (.aload_n 0, 1) := by decide +kernel
theorem dX12_sign_16 : decode cX12_sign 16 = .ok (.getfield 206, 3) := by decide +kernel
theorem dX12_sign_19 : decode cX12_sign 19 = .ok (.iaload, 1) := by decide +kernel
theorem dX12_sign_20 : decode cX12_sign 20 = .ok (.bipush 32, 2) := by decide +kernel
theorem dX12_sign_22 : decode cX12_sign 22 = .ok (.if_icmp .ne 16, 3) := by decide +kernel
theorem dX12_sign_25 : decode cX12_sign 25 = .ok (.aload_n 0, 1) := by decide +kernel
theorem dX12_sign_26 : decode cX12_sign 26 = .ok (.dup, 1) := by decide +kernel
theorem dX12_sign_27 : decode cX12_sign 27 = .ok (.getfield 206, 3) := by decide +kernel
theorem dX12_sign_30 : decode cX12_sign 30 = .ok (.iconst 1, 1) := by decide +kernel
theorem dX12_sign_31 : decode cX12_sign 31 = .ok (.iadd, 1) := by decide +kernel
theorem dX12_sign_32 : decode cX12_sign 32 = .ok (.putfield 206, 3) := by decide +kernel
theorem dX12_sign_35 : decode cX12_sign 35 = .ok (.goto (-35), 3) := by decide +kernel
theorem dX12_sign_38 : decode cX12_sign 38 = .ok (.aload_n 0, 1) := by decide +kernel
theorem dX12_sign_39 : decode cX12_sign 39 = .ok (.getfield 206, 3) := by decide +kernel
theorem dX12_sign_42 : decode cX12_sign 42 = .ok (.aload_n 0, 1) := by decide +kernel
theorem dX12_sign_43 : decode cX12_sign 43 = .ok (.getfield 209, 3) := by decide +kernel
theorem dX12_sign_46 : decode cX12_sign 46 = .ok (.if_icmp .ge 15, 3) := by decide +kernel
theorem dX12_sign_49 : decode cX12_sign 49 = .ok (.aload_n 0, 1) := by decide +kernel
theorem dX12_sign_50 : decode cX12_sign 50 = .ok (.getfield 58, 3) := by decide +kernel
theorem dX12_sign_53 : decode cX12_sign 53 = .ok (.aload_n 0, 1) := by decide +kernel
theorem dX12_sign_54 : decode cX12_sign 54 = .ok (.getfield 206, 3) := by decide +kernel
theorem dX12_sign_57 : decode cX12_sign 57 = .ok (.iaload, 1) := by decide +kernel
theorem dX12_sign_58 : decode cX12_sign 58 = .ok (.goto 4, 3) := by decide +kernel
theorem dX12_sign_61 : decode cX12_sign 61 = .ok (.iconst (-1), 1) := by decide +kernel
theorem dX12_sign_62 : decode cX12_sign 62 = .ok (.ireturn, 1) := by decide +kernel
theorem dX12_isDigit_0 : decode cX12_isDigit 0 = .ok (.iload_n 0, 1) := by decide +kernel
theorem dX12_isDigit_1 : decode cX12_isDigit 1 = .ok (.bipush 48, 2) := by decide +kernel
theorem dX12_isDigit_3 : decode cX12_isDigit 3 = .ok (.if_icmp .lt 13, 3) := by decide +kernel
theorem dX12_isDigit_6 : decode cX12_isDigit 6 = .ok (.iload_n 0, 1) := by decide +kernel
theorem dX12_isDigit_7 : decode cX12_isDigit 7 = .ok (.bipush 57, 2) := by decide +kernel
theorem dX12_isDigit_9 : decode cX12_isDigit 9 = .ok (.if_icmp .gt 7, 3) := by decide +kernel
theorem dX12_isDigit_12 : decode cX12_isDigit 12 = .ok (.iconst 1, 1) := by decide +kernel
theorem dX12_isDigit_13 : decode cX12_isDigit 13 = .ok (.goto 4, 3) := by decide +kernel
theorem dX12_isDigit_16 : decode cX12_isDigit 16 = .ok (.iconst 0, 1) := by decide +kernel
theorem dX12_isDigit_17 : decode cX12_isDigit 17 = .ok (.ireturn, 1) := by decide +kernel
theorem dX12_wordEnd_0 : decode cX12_wordEnd 0 = .ok (.aload_n 0, 1) := by decide +kernel
theorem dX12_wordEnd_1 : decode cX12_wordEnd 1 = .ok (.getfield 206, 3) := by decide +kernel
theorem dX12_wordEnd_4 : decode cX12_wordEnd 4 = .ok (.istore_n 1, 1) := by decide +kernel
theorem dX12_wordEnd_5 : decode cX12_wordEnd 5 = .ok (.iload_n 1, 1) := by decide +kernel
theorem dX12_wordEnd_6 : decode cX12_wordEnd 6 = .ok (.aload_n 0, 1) := by decide +kernel
theorem dX12_wordEnd_7 : decode cX12_wordEnd 7 = .ok (.getfield 209, 3) := by decide +kernel
theorem dX12_wordEnd_10 : decode cX12_wordEnd 10 = .ok (.if_icmp .ge 31, 3) := by decide +kernel
theorem dX12_wordEnd_13 : decode cX12_wordEnd 13 = .ok (.aload_n 0, 1) := by decide +kernel
theorem dX12_wordEnd_14 : decode cX12_wordEnd 14 = .ok (.getfield 58, 3) := by decide +kernel
theorem dX12_wordEnd_17 : decode cX12_wordEnd 17 = .ok (.iload_n 1, 1) := by decide +kernel
theorem dX12_wordEnd_18 : decode cX12_wordEnd 18 = .ok (.iaload, 1) := by decide +kernel
theorem dX12_wordEnd_19 : decode cX12_wordEnd 19 = .ok (.bipush 97, 2) := by decide +kernel
theorem dX12_wordEnd_21 : decode cX12_wordEnd 21 = .ok (.if_icmp .lt 20, 3) := by decide +kernel
theorem dX12_wordEnd_24 : decode cX12_wordEnd 24 = .ok (.aload_n 0, 1) := by decide +kernel
theorem dX12_wordEnd_25 : decode cX12_wordEnd 25 = .ok (.getfield 58, 3) := by decide +kernel
theorem dX12_wordEnd_28 : decode cX12_wordEnd 28 = .ok (.iload_n 1, 1) := by decide +kernel
theorem dX12_wordEnd_29 : decode cX12_wordEnd 29 = .ok (.iaload, 1) := by decide +kernel
theorem dX12_wordEnd_30 : decode cX12_wordEnd 30 = .ok (.bipush 122, 2) := by decide +kernel
theorem dX12_wordEnd_32 : decode cX12_wordEnd 32 = .ok (.if_icmp .gt 9, 3) := by decide +kernel
theorem dX12_wordEnd_35 : decode cX12_wordEnd 35 = .ok (.iinc 1 1, 3) := by decide +kernel
theorem dX12_wordEnd_38 : decode cX12_wordEnd 38 = .ok (.goto (-33), 3) := by decide +kernel
theorem dX12_wordEnd_41 : decode cX12_wordEnd 41 = .ok (.iload_n 1, 1) := by decide +kernel
theorem dX12_wordEnd_42 : decode cX12_wordEnd 42 = .ok (.ireturn, 1) := by decide +kernel
set_option maxRecDepth 20000 in
theorem glX12_isWord_0 : GoodIn wsX12_isWord ([.fieldLink RX12 206 "PostHouseModel" "at" "I", .fieldLink RX12 58 "PostHouseModel" "tape" "[I", .methodLink RX12 212 yX12_sign, .instanceMethod yX12_sign, .selects RX12 yX12_sign yX12_sign, .initialized RX12, .code yX12_sign cX12_sign 1 (some .int), .fieldLink RX12 209 "PostHouseModel" "end" "I", .methodLink RX12 216 yX12_wordEnd, .instanceMethod yX12_wordEnd, .selects RX12 yX12_wordEnd yX12_wordEnd, .code yX12_wordEnd cX12_wordEnd 2 (some .int)]) := goodIn_sub (fun _ h => List.mem_cons_of_mem _ (List.mem_append_left _ (h))) (by decide +kernel)
set_option maxRecDepth 20000 in
theorem glX12_isWord_1 : GoodIn wsX12_isWord (wsX120) := goodIn_sub (fun _ h => List.mem_cons_of_mem _ (List.mem_append_right _ (h))) ag_wsX120
set_option maxRecDepth 20000 in
theorem ggX12_isWord_X12_sign : GoodIn wsX12_isWord wsX12_sign := goodIn_c (glX12_isWord_0 _ (List.mem_of_getElem? (i := 6) rfl)) (goodIn_app (goodIn_c (glX12_isWord_0 _ (List.mem_of_getElem? (i := 0) rfl)) (goodIn_c (glX12_isWord_0 _ (List.mem_of_getElem? (i := 7) rfl)) (goodIn_c (glX12_isWord_0 _ (List.mem_of_getElem? (i := 1) rfl)) (goodIn_n)))) (glX12_isWord_1))
set_option maxRecDepth 20000 in
theorem gX12_isWord_X12_sign : GoodIn wsX12_isWord (wsV RX12 212 RX12 yX12_sign wsX12_sign) := goodIn_app (goodIn_of _ (by decide +kernel)) ggX12_isWord_X12_sign
set_option maxRecDepth 20000 in
theorem ggX12_isWord_X12_wordEnd : GoodIn wsX12_isWord wsX12_wordEnd := goodIn_c (glX12_isWord_0 _ (List.mem_of_getElem? (i := 11) rfl)) (goodIn_app (goodIn_c (glX12_isWord_0 _ (List.mem_of_getElem? (i := 0) rfl)) (goodIn_c (glX12_isWord_0 _ (List.mem_of_getElem? (i := 7) rfl)) (goodIn_c (glX12_isWord_0 _ (List.mem_of_getElem? (i := 1) rfl)) (goodIn_n)))) (glX12_isWord_1))
set_option maxRecDepth 20000 in
theorem gX12_isWord_X12_wordEnd : GoodIn wsX12_isWord (wsV RX12 216 RX12 yX12_wordEnd wsX12_wordEnd) := goodIn_app (goodIn_of _ (by decide +kernel)) ggX12_isWord_X12_wordEnd
theorem dX12_isWord_0 : decode cX12_isWord 0 = .ok (.aload_n 0, 1) := by decide +kernel
theorem dX12_isWord_1 : decode cX12_isWord 1 = .ok (.invokevirtual 212, 3) := by decide +kernel
theorem dX12_isWord_4 : decode cX12_isWord 4 = .ok (.istore_n 3, 1) := by decide +kernel
theorem dX12_isWord_5 : decode cX12_isWord 5 = .ok (.aload_n 0, 1) := by decide +kernel
theorem dX12_isWord_6 : decode cX12_isWord 6 = .ok (.invokevirtual 216, 3) := by decide +kernel
theorem dX12_isWord_9 : decode cX12_isWord 9 = .ok (.istore 4, 2) := by decide +kernel
theorem dX12_isWord_11 : decode cX12_isWord 11 = .ok (.iload 4, 2) := by decide +kernel
theorem dX12_isWord_13 : decode cX12_isWord 13 = .ok (.aload_n 0, 1) := by decide +kernel
theorem dX12_isWord_14 : decode cX12_isWord 14 = .ok (.getfield 206, 3) := by decide +kernel
theorem dX12_isWord_17 : decode cX12_isWord 17 = .ok (.if_icmp .eq 15, 3) := by decide +kernel
theorem dX12_isWord_20 : decode cX12_isWord 20 = .ok (.iload 4, 2) := by decide +kernel
theorem dX12_isWord_22 : decode cX12_isWord 22 = .ok (.aload_n 0, 1) := by decide +kernel
theorem dX12_isWord_23 : decode cX12_isWord 23 = .ok (.getfield 206, 3) := by decide +kernel
theorem dX12_isWord_26 : decode cX12_isWord 26 = .ok (.isub, 1) := by decide +kernel
theorem dX12_isWord_27 : decode cX12_isWord 27 = .ok (.bipush 7, 2) := by decide +kernel
theorem dX12_isWord_29 : decode cX12_isWord 29 = .ok (.if_icmp .le 5, 3) := by decide +kernel
theorem dX12_isWord_32 : decode cX12_isWord 32 = .ok (.iconst 0, 1) := by decide +kernel
theorem dX12_isWord_33 : decode cX12_isWord 33 = .ok (.ireturn, 1) := by decide +kernel
theorem dX12_isWord_34 : decode cX12_isWord 34 = .ok (.lconst 0, 1) := by decide +kernel
theorem dX12_isWord_35 : decode cX12_isWord 35 = .ok (.lstore 5, 2) := by decide +kernel
theorem dX12_isWord_37 : decode cX12_isWord 37 = .ok (.aload_n 0, 1) := by decide +kernel
theorem dX12_isWord_38 : decode cX12_isWord 38 = .ok (.getfield 206, 3) := by decide +kernel
theorem dX12_isWord_41 : decode cX12_isWord 41 = .ok (.istore 7, 2) := by decide +kernel
theorem dX12_isWord_43 : decode cX12_isWord 43 = .ok (.iload 7, 2) := by decide +kernel
theorem dX12_isWord_45 : decode cX12_isWord 45 = .ok (.iload 4, 2) := by decide +kernel
theorem dX12_isWord_47 : decode cX12_isWord 47 = .ok (.if_icmp .ge 25, 3) := by decide +kernel
theorem dX12_isWord_50 : decode cX12_isWord 50 = .ok (.lload 5, 2) := by decide +kernel
theorem dX12_isWord_52 : decode cX12_isWord 52 = .ok (.bipush 8, 2) := by decide +kernel
theorem dX12_isWord_54 : decode cX12_isWord 54 = .ok (.lshl, 1) := by decide +kernel
theorem dX12_isWord_55 : decode cX12_isWord 55 = .ok (.aload_n 0, 1) := by decide +kernel
theorem dX12_isWord_56 : decode cX12_isWord 56 = .ok (.getfield 58, 3) := by decide +kernel
theorem dX12_isWord_59 : decode cX12_isWord 59 = .ok (.iload 7, 2) := by decide +kernel
theorem dX12_isWord_61 : decode cX12_isWord 61 = .ok (.iaload, 1) := by decide +kernel
theorem dX12_isWord_62 : decode cX12_isWord 62 = .ok (.i2l, 1) := by decide +kernel
theorem dX12_isWord_63 : decode cX12_isWord 63 = .ok (.lor, 1) := by decide +kernel
theorem dX12_isWord_64 : decode cX12_isWord 64 = .ok (.lstore 5, 2) := by decide +kernel
theorem dX12_isWord_66 : decode cX12_isWord 66 = .ok (.iinc 7 1, 3) := by decide +kernel
theorem dX12_isWord_69 : decode cX12_isWord 69 = .ok (.goto (-26), 3) := by decide +kernel
theorem dX12_isWord_72 : decode cX12_isWord 72 = .ok (.lload 5, 2) := by decide +kernel
theorem dX12_isWord_74 : decode cX12_isWord 74 = .ok (.lload_n 1, 1) := by decide +kernel
theorem dX12_isWord_75 : decode cX12_isWord 75 = .ok (.lcmp, 1) := by decide +kernel
theorem dX12_isWord_76 : decode cX12_isWord 76 = .ok (.ifCond .ne 7, 3) := by decide +kernel
theorem dX12_isWord_79 : decode cX12_isWord 79 = .ok (.iconst 1, 1) := by decide +kernel
theorem dX12_isWord_80 : decode cX12_isWord 80 = .ok (.goto 4, 3) := by decide +kernel
theorem dX12_isWord_83 : decode cX12_isWord 83 = .ok (.iconst 0, 1) := by decide +kernel
theorem dX12_isWord_84 : decode cX12_isWord 84 = .ok (.ireturn, 1) := by decide +kernel
set_option maxRecDepth 20000 in
theorem glX12_passes_0 : GoodIn wsX12_passes ([.fieldLink RX12 206 "PostHouseModel" "at" "I", .methodLink RX12 219 yX12_isWord, .instanceMethod yX12_isWord, .selects RX12 yX12_isWord yX12_isWord, .initialized RX12, .code yX12_isWord cX12_isWord 8 (some .boolean), .fieldLink RX12 58 "PostHouseModel" "tape" "[I", .methodLink RX12 212 yX12_sign, .instanceMethod yX12_sign, .selects RX12 yX12_sign yX12_sign, .code yX12_sign cX12_sign 1 (some .int), .fieldLink RX12 209 "PostHouseModel" "end" "I", .methodLink RX12 216 yX12_wordEnd, .instanceMethod yX12_wordEnd, .selects RX12 yX12_wordEnd yX12_wordEnd, .code yX12_wordEnd cX12_wordEnd 2 (some .int), .methodLink RX12 223 yX12_wrong, .instanceMethod yX12_wrong, .selects RX12 yX12_wrong yX12_wrong, .code yX12_wrong cX12_wrong 2 (some .boolean), .fieldLink RX12 61 "PostHouseModel" "fault" "I"]) := goodIn_sub (fun _ h => List.mem_cons_of_mem _ (List.mem_append_left _ (h))) (by decide +kernel)
set_option maxRecDepth 20000 in
theorem glX12_passes_1 : GoodIn wsX12_passes (wsX120) := goodIn_sub (fun _ h => List.mem_cons_of_mem _ (List.mem_append_right _ (h))) ag_wsX120
set_option maxRecDepth 20000 in
theorem ggX12_passes_X12_isWord : GoodIn wsX12_passes wsX12_isWord := goodIn_c (glX12_passes_0 _ (List.mem_of_getElem? (i := 5) rfl)) (goodIn_app (goodIn_c (glX12_passes_0 _ (List.mem_of_getElem? (i := 0) rfl)) (goodIn_c (glX12_passes_0 _ (List.mem_of_getElem? (i := 6) rfl)) (goodIn_c (glX12_passes_0 _ (List.mem_of_getElem? (i := 7) rfl)) (goodIn_c (glX12_passes_0 _ (List.mem_of_getElem? (i := 8) rfl)) (goodIn_c (glX12_passes_0 _ (List.mem_of_getElem? (i := 9) rfl)) (goodIn_c (glX12_passes_0 _ (List.mem_of_getElem? (i := 4) rfl)) (goodIn_c (glX12_passes_0 _ (List.mem_of_getElem? (i := 10) rfl)) (goodIn_c (glX12_passes_0 _ (List.mem_of_getElem? (i := 11) rfl)) (goodIn_c (glX12_passes_0 _ (List.mem_of_getElem? (i := 12) rfl)) (goodIn_c (glX12_passes_0 _ (List.mem_of_getElem? (i := 13) rfl)) (goodIn_c (glX12_passes_0 _ (List.mem_of_getElem? (i := 14) rfl)) (goodIn_c (glX12_passes_0 _ (List.mem_of_getElem? (i := 15) rfl)) (goodIn_n))))))))))))) (glX12_passes_1))
set_option maxRecDepth 20000 in
theorem gX12_passes_X12_isWord : GoodIn wsX12_passes (wsV RX12 219 RX12 yX12_isWord wsX12_isWord) := goodIn_app (goodIn_of _ (by decide +kernel)) ggX12_passes_X12_isWord
set_option maxRecDepth 20000 in
theorem ggX12_passes_X12_wrong : GoodIn wsX12_passes wsX12_wrong := goodIn_c (glX12_passes_0 _ (List.mem_of_getElem? (i := 19) rfl)) (goodIn_app (goodIn_c (glX12_passes_0 _ (List.mem_of_getElem? (i := 20) rfl)) (goodIn_n)) (glX12_passes_1))
set_option maxRecDepth 20000 in
theorem gX12_passes_X12_wrong : GoodIn wsX12_passes (wsV RX12 223 RX12 yX12_wrong wsX12_wrong) := goodIn_app (goodIn_of _ (by decide +kernel)) ggX12_passes_X12_wrong
set_option maxRecDepth 20000 in
theorem ggX12_passes_X12_wordEnd : GoodIn wsX12_passes wsX12_wordEnd := goodIn_c (glX12_passes_0 _ (List.mem_of_getElem? (i := 15) rfl)) (goodIn_app (goodIn_c (glX12_passes_0 _ (List.mem_of_getElem? (i := 0) rfl)) (goodIn_c (glX12_passes_0 _ (List.mem_of_getElem? (i := 11) rfl)) (goodIn_c (glX12_passes_0 _ (List.mem_of_getElem? (i := 6) rfl)) (goodIn_n)))) (glX12_passes_1))
set_option maxRecDepth 20000 in
theorem gX12_passes_X12_wordEnd : GoodIn wsX12_passes (wsV RX12 216 RX12 yX12_wordEnd wsX12_wordEnd) := goodIn_app (goodIn_of _ (by decide +kernel)) ggX12_passes_X12_wordEnd
theorem dX12_passes_0 : decode cX12_passes 0 = .ok (.aload_n 0, 1) := by decide +kernel
theorem dX12_passes_1 : decode cX12_passes 1 = .ok (.lload_n 1, 1) := by decide +kernel
theorem dX12_passes_2 : decode cX12_passes 2 = .ok (.invokevirtual 219, 3) := by decide +kernel
theorem dX12_passes_5 : decode cX12_passes 5 = .ok (.ifCond .ne 12, 3) := by decide +kernel
theorem dX12_passes_8 : decode cX12_passes 8 = .ok (.aload_n 0, 1) := by decide +kernel
theorem dX12_passes_9 : decode cX12_passes 9 = .ok (.aload_n 0, 1) := by decide +kernel
theorem dX12_passes_10 : decode cX12_passes 10 = .ok (.getfield 206, 3) := by decide +kernel
theorem dX12_passes_13 : decode cX12_passes 13 = .ok (.invokevirtual 223, 3) := by decide +kernel
theorem dX12_passes_16 : decode cX12_passes 16 = .ok (.ireturn, 1) := by decide +kernel
theorem dX12_passes_17 : decode cX12_passes 17 = .ok (.aload_n 0, 1) := by decide +kernel
theorem dX12_passes_18 : decode cX12_passes 18 = .ok (.aload_n 0, 1) := by decide +kernel
theorem dX12_passes_19 : decode cX12_passes 19 = .ok (.invokevirtual 216, 3) := by decide +kernel
theorem dX12_passes_22 : decode cX12_passes 22 = .ok (.putfield 206, 3) := by decide +kernel
theorem dX12_passes_25 : decode cX12_passes 25 = .ok (.iconst 1, 1) := by decide +kernel
theorem dX12_passes_26 : decode cX12_passes 26 = .ok (.ireturn, 1) := by decide +kernel
set_option maxRecDepth 20000 in
theorem glX12_digits_0 : GoodIn wsX12_digits ([.fieldLink RX12 206 "PostHouseModel" "at" "I", .fieldLink RX12 209 "PostHouseModel" "end" "I", .fieldLink RX12 58 "PostHouseModel" "tape" "[I", .fieldLink RX12 229 "PostHouseModel" "number" "I", .methodLink RX12 212 yX12_sign, .instanceMethod yX12_sign, .selects RX12 yX12_sign yX12_sign, .initialized RX12, .code yX12_sign cX12_sign 1 (some .int), .methodLink RX12 226 yX12_isDigit, .static yX12_isDigit, .code yX12_isDigit cX12_isDigit 1 (some .boolean), .methodLink RX12 223 yX12_wrong, .instanceMethod yX12_wrong, .selects RX12 yX12_wrong yX12_wrong, .code yX12_wrong cX12_wrong 2 (some .boolean), .fieldLink RX12 61 "PostHouseModel" "fault" "I"]) := goodIn_sub (fun _ h => List.mem_cons_of_mem _ (List.mem_append_left _ (h))) (by decide +kernel)
set_option maxRecDepth 20000 in
theorem glX12_digits_1 : GoodIn wsX12_digits (wsX120) := goodIn_sub (fun _ h => List.mem_cons_of_mem _ (List.mem_append_right _ (h))) ag_wsX120
set_option maxRecDepth 20000 in
theorem ggX12_digits_X12_sign : GoodIn wsX12_digits wsX12_sign := goodIn_c (glX12_digits_0 _ (List.mem_of_getElem? (i := 8) rfl)) (goodIn_app (goodIn_c (glX12_digits_0 _ (List.mem_of_getElem? (i := 0) rfl)) (goodIn_c (glX12_digits_0 _ (List.mem_of_getElem? (i := 1) rfl)) (goodIn_c (glX12_digits_0 _ (List.mem_of_getElem? (i := 2) rfl)) (goodIn_n)))) (glX12_digits_1))
set_option maxRecDepth 20000 in
theorem gX12_digits_X12_sign : GoodIn wsX12_digits (wsV RX12 212 RX12 yX12_sign wsX12_sign) := goodIn_app (goodIn_of _ (by decide +kernel)) ggX12_digits_X12_sign
set_option maxRecDepth 20000 in
theorem ggX12_digits_X12_isDigit : GoodIn wsX12_digits wsX12_isDigit := goodIn_c (glX12_digits_0 _ (List.mem_of_getElem? (i := 11) rfl)) (goodIn_n)
set_option maxRecDepth 20000 in
theorem gX12_digits_X12_isDigit : GoodIn wsX12_digits (va_wsS RX12 226 yX12_isDigit wsX12_isDigit) := goodIn_app (goodIn_of _ (by decide +kernel)) ggX12_digits_X12_isDigit
set_option maxRecDepth 20000 in
theorem ggX12_digits_X12_wrong : GoodIn wsX12_digits wsX12_wrong := goodIn_c (glX12_digits_0 _ (List.mem_of_getElem? (i := 15) rfl)) (goodIn_app (goodIn_c (glX12_digits_0 _ (List.mem_of_getElem? (i := 16) rfl)) (goodIn_n)) (glX12_digits_1))
set_option maxRecDepth 20000 in
theorem gX12_digits_X12_wrong : GoodIn wsX12_digits (wsV RX12 223 RX12 yX12_wrong wsX12_wrong) := goodIn_app (goodIn_of _ (by decide +kernel)) ggX12_digits_X12_wrong
theorem dX12_digits_0 : decode cX12_digits 0 = .ok (.aload_n 0, 1) := by decide +kernel
theorem dX12_digits_1 : decode cX12_digits 1 = .ok (.invokevirtual 212, 3) := by decide +kernel
theorem dX12_digits_4 : decode cX12_digits 4 = .ok (.istore 5, 2) := by decide +kernel
theorem dX12_digits_6 : decode cX12_digits 6 = .ok (.aload_n 0, 1) := by decide +kernel
theorem dX12_digits_7 : decode cX12_digits 7 = .ok (.getfield 206, 3) := by decide +kernel
theorem dX12_digits_10 : decode cX12_digits 10 = .ok (.istore 6, 2) := by decide +kernel
theorem dX12_digits_12 : decode cX12_digits 12 = .ok (.iconst 0, 1) := by decide +kernel
theorem dX12_digits_13 : decode cX12_digits 13 = .ok (.istore 7, 2) := by decide +kernel
theorem dX12_digits_15 : decode cX12_digits 15 = .ok (.aload_n 0, 1) := by decide +kernel
theorem dX12_digits_16 : decode cX12_digits 16 = .ok (.getfield 206, 3) := by decide +kernel
theorem dX12_digits_19 : decode cX12_digits 19 = .ok (.aload_n 0, 1) := by decide +kernel
theorem dX12_digits_20 : decode cX12_digits 20 = .ok (.getfield 209, 3) := by decide +kernel
theorem dX12_digits_23 : decode cX12_digits 23 = .ok (.if_icmp .ge 62, 3) := by decide +kernel
theorem dX12_digits_26 : decode cX12_digits 26 = .ok (.aload_n 0, 1) := by decide +kernel
theorem dX12_digits_27 : decode cX12_digits 27 = .ok (.getfield 58, 3) := by decide +kernel
theorem dX12_digits_30 : decode cX12_digits 30 = .ok (.aload_n 0, 1) := by decide +kernel
theorem dX12_digits_31 : decode cX12_digits 31 = .ok (.getfield 206, 3) := by decide +kernel
theorem dX12_digits_34 : decode cX12_digits 34 = .ok (.iaload, 1) := by decide +kernel
theorem dX12_digits_35 : decode cX12_digits 35 = .ok (.invokestatic 226, 3) := by decide +kernel
theorem dX12_digits_38 : decode cX12_digits 38 = .ok (.ifCond .eq 47, 3) := by decide +kernel
theorem dX12_digits_41 : decode cX12_digits 41 = .ok (.aload_n 0, 1) := by decide +kernel
theorem dX12_digits_42 : decode cX12_digits 42 = .ok (.getfield 206, 3) := by decide +kernel
theorem dX12_digits_45 : decode cX12_digits 45 = .ok (.iload 6, 2) := by decide +kernel
theorem dX12_digits_47 : decode cX12_digits 47 = .ok (.isub, 1) := by decide +kernel
theorem dX12_digits_48 : decode cX12_digits 48 = .ok (.iload_n 2, 1) := by decide +kernel
theorem dX12_digits_49 : decode cX12_digits 49 = .ok (.if_icmp .gt 36, 3) := by decide +kernel
theorem dX12_digits_52 : decode cX12_digits 52 = .ok (.bipush 10, 2) := by decide +kernel
theorem dX12_digits_54 : decode cX12_digits 54 = .ok (.iload 7, 2) := by decide +kernel
theorem dX12_digits_56 : decode cX12_digits 56 = .ok (.imul, 1) := by decide +kernel
theorem dX12_digits_57 : decode cX12_digits 57 = .ok (.aload_n 0, 1) := by decide +kernel
theorem dX12_digits_58 : decode cX12_digits 58 = .ok (.getfield 58, 3) := by decide +kernel
theorem dX12_digits_61 : decode cX12_digits 61 = .ok (.aload_n 0, 1) := by decide +kernel
theorem dX12_digits_62 : decode cX12_digits 62 = .ok (.getfield 206, 3) := by decide +kernel
theorem dX12_digits_65 : decode cX12_digits 65 = .ok (.iaload, 1) := by decide +kernel
theorem dX12_digits_66 : decode cX12_digits 66 = .ok (.iadd, 1) := by decide +kernel
theorem dX12_digits_67 : decode cX12_digits 67 = .ok (.bipush 48, 2) := by decide +kernel
theorem dX12_digits_69 : decode cX12_digits 69 = .ok (.isub, 1) := by decide +kernel
theorem dX12_digits_70 : decode cX12_digits 70 = .ok (.istore 7, 2) := by decide +kernel
theorem dX12_digits_72 : decode cX12_digits 72 = .ok (.aload_n 0, 1) := by decide +kernel
theorem dX12_digits_73 : decode cX12_digits 73 = .ok (.dup, 1) := by decide +kernel
theorem dX12_digits_74 : decode cX12_digits 74 = .ok (.getfield 206, 3) := by decide +kernel
theorem dX12_digits_77 : decode cX12_digits 77 = .ok (.iconst 1, 1) := by decide +kernel
theorem dX12_digits_78 : decode cX12_digits 78 = .ok (.iadd, 1) := by decide +kernel
theorem dX12_digits_79 : decode cX12_digits 79 = .ok (.putfield 206, 3) := by decide +kernel
theorem dX12_digits_82 : decode cX12_digits 82 = .ok (.goto (-67), 3) := by decide +kernel
theorem dX12_digits_85 : decode cX12_digits 85 = .ok (.aload_n 0, 1) := by decide +kernel
theorem dX12_digits_86 : decode cX12_digits 86 = .ok (.getfield 206, 3) := by decide +kernel
theorem dX12_digits_89 : decode cX12_digits 89 = .ok (.iload 6, 2) := by decide +kernel
theorem dX12_digits_91 : decode cX12_digits 91 = .ok (.isub, 1) := by decide +kernel
theorem dX12_digits_92 : decode cX12_digits 92 = .ok (.iload_n 1, 1) := by decide +kernel
theorem dX12_digits_93 : decode cX12_digits 93 = .ok (.if_icmp .lt 27, 3) := by decide +kernel
theorem dX12_digits_96 : decode cX12_digits 96 = .ok (.aload_n 0, 1) := by decide +kernel
theorem dX12_digits_97 : decode cX12_digits 97 = .ok (.getfield 206, 3) := by decide +kernel
theorem dX12_digits_100 : decode cX12_digits 100 = .ok (.iload 6, 2) := by decide +kernel
theorem dX12_digits_102 : decode cX12_digits 102 = .ok (.isub, 1) := by decide +kernel
theorem dX12_digits_103 : decode cX12_digits 103 = .ok (.iload_n 2, 1) := by decide +kernel
theorem dX12_digits_104 : decode cX12_digits 104 = .ok (.if_icmp .gt 16, 3) := by decide +kernel
theorem dX12_digits_107 : decode cX12_digits 107 = .ok (.iload 7, 2) := by decide +kernel
theorem dX12_digits_109 : decode cX12_digits 109 = .ok (.iload_n 3, 1) := by decide +kernel
theorem dX12_digits_110 : decode cX12_digits 110 = .ok (.if_icmp .lt 10, 3) := by decide +kernel
theorem dX12_digits_113 : decode cX12_digits 113 = .ok (.iload 7, 2) := by decide +kernel
theorem dX12_digits_115 : decode cX12_digits 115 = .ok (.iload 4, 2) := by decide +kernel
theorem dX12_digits_117 : decode cX12_digits 117 = .ok (.if_icmp .le 10, 3) := by decide +kernel
theorem dX12_digits_120 : decode cX12_digits 120 = .ok (.aload_n 0, 1) := by decide +kernel
theorem dX12_digits_121 : decode cX12_digits 121 = .ok (.iload 6, 2) := by decide +kernel
theorem dX12_digits_123 : decode cX12_digits 123 = .ok (.invokevirtual 223, 3) := by decide +kernel
theorem dX12_digits_126 : decode cX12_digits 126 = .ok (.ireturn, 1) := by decide +kernel
theorem dX12_digits_127 : decode cX12_digits 127 = .ok (.aload_n 0, 1) := by decide +kernel
theorem dX12_digits_128 : decode cX12_digits 128 = .ok (.iload 7, 2) := by decide +kernel
theorem dX12_digits_130 : decode cX12_digits 130 = .ok (.putfield 229, 3) := by decide +kernel
theorem dX12_digits_133 : decode cX12_digits 133 = .ok (.iconst 1, 1) := by decide +kernel
theorem dX12_digits_134 : decode cX12_digits 134 = .ok (.ireturn, 1) := by decide +kernel
set_option maxRecDepth 20000 in
theorem glX12_thingCode_0 : GoodIn wsX12_thingCode (wsX12_thingCode_r1) := goodIn_sub (fun _ h => List.mem_cons_of_mem _ (List.mem_append_left _ (List.mem_append_left _ (h)))) (by decide +kernel)
set_option maxRecDepth 20000 in
theorem glX12_thingCode_2 : GoodIn wsX12_thingCode (wsX120) := goodIn_sub (fun _ h => List.mem_cons_of_mem _ (List.mem_append_right _ (h))) ag_wsX120
set_option maxRecDepth 20000 in
theorem ggX12_thingCode_X12_sign : GoodIn wsX12_thingCode wsX12_sign := goodIn_c (glX12_thingCode_0 _ (List.mem_of_getElem? (i := 6) rfl)) (goodIn_app (goodIn_c (glX12_thingCode_0 _ (List.mem_of_getElem? (i := 0) rfl)) (goodIn_c (glX12_thingCode_0 _ (List.mem_of_getElem? (i := 7) rfl)) (goodIn_c (glX12_thingCode_0 _ (List.mem_of_getElem? (i := 8) rfl)) (goodIn_n)))) (glX12_thingCode_2))
set_option maxRecDepth 20000 in
theorem gX12_thingCode_X12_sign : GoodIn wsX12_thingCode (wsV RX12 212 RX12 yX12_sign wsX12_sign) := goodIn_app (goodIn_of _ (by decide +kernel)) ggX12_thingCode_X12_sign
set_option maxRecDepth 20000 in
theorem ggX12_thingCode_X12_digits : GoodIn wsX12_thingCode wsX12_digits := goodIn_c (glX12_thingCode_0 _ (List.mem_of_getElem? (i := 12) rfl)) (goodIn_app (goodIn_c (glX12_thingCode_0 _ (List.mem_of_getElem? (i := 0) rfl)) (goodIn_c (glX12_thingCode_0 _ (List.mem_of_getElem? (i := 7) rfl)) (goodIn_c (glX12_thingCode_0 _ (List.mem_of_getElem? (i := 8) rfl)) (goodIn_c (glX12_thingCode_0 _ (List.mem_of_getElem? (i := 1) rfl)) (goodIn_c (glX12_thingCode_0 _ (List.mem_of_getElem? (i := 2) rfl)) (goodIn_c (glX12_thingCode_0 _ (List.mem_of_getElem? (i := 3) rfl)) (goodIn_c (glX12_thingCode_0 _ (List.mem_of_getElem? (i := 4) rfl)) (goodIn_c (glX12_thingCode_0 _ (List.mem_of_getElem? (i := 5) rfl)) (goodIn_c (glX12_thingCode_0 _ (List.mem_of_getElem? (i := 6) rfl)) (goodIn_c (glX12_thingCode_0 _ (List.mem_of_getElem? (i := 13) rfl)) (goodIn_c (glX12_thingCode_0 _ (List.mem_of_getElem? (i := 14) rfl)) (goodIn_c (glX12_thingCode_0 _ (List.mem_of_getElem? (i := 15) rfl)) (goodIn_c (glX12_thingCode_0 _ (List.mem_of_getElem? (i := 16) rfl)) (goodIn_c (glX12_thingCode_0 _ (List.mem_of_getElem? (i := 17) rfl)) (goodIn_c (glX12_thingCode_0 _ (List.mem_of_getElem? (i := 18) rfl)) (goodIn_c (glX12_thingCode_0 _ (List.mem_of_getElem? (i := 19) rfl)) (goodIn_c (glX12_thingCode_0 _ (List.mem_of_getElem? (i := 20) rfl)) (goodIn_n)))))))))))))))))) (glX12_thingCode_2))
set_option maxRecDepth 20000 in
theorem gX12_thingCode_X12_digits : GoodIn wsX12_thingCode (wsV RX12 232 RX12 yX12_digits wsX12_digits) := goodIn_app (goodIn_of _ (by decide +kernel)) ggX12_thingCode_X12_digits
set_option maxRecDepth 20000 in
theorem glX12_thingCode_1 : GoodIn wsX12_thingCode (wsX12_thingCode_r2) := goodIn_sub (fun _ h => List.mem_cons_of_mem _ (List.mem_append_left _ (List.mem_append_right _ (h)))) (by decide +kernel)
set_option maxRecDepth 20000 in
theorem ggX12_thingCode_X12_thingOf : GoodIn wsX12_thingCode wsX12_thingOf := goodIn_c (glX12_thingCode_1 _ (List.mem_of_getElem? (i := 0) rfl)) (goodIn_app (goodIn_c (glX12_thingCode_1 _ (List.mem_of_getElem? (i := 1) rfl)) (goodIn_c (glX12_thingCode_1 _ (List.mem_of_getElem? (i := 2) rfl)) (goodIn_n))) (glX12_thingCode_2))
set_option maxRecDepth 20000 in
theorem gX12_thingCode_X12_thingOf : GoodIn wsX12_thingCode (wsV RX12 189 RX12 yX12_thingOf wsX12_thingOf) := goodIn_app (goodIn_of _ (by decide +kernel)) ggX12_thingCode_X12_thingOf
set_option maxRecDepth 20000 in
theorem ggX12_thingCode_X12_wrong : GoodIn wsX12_thingCode wsX12_wrong := goodIn_c (glX12_thingCode_0 _ (List.mem_of_getElem? (i := 19) rfl)) (goodIn_app (goodIn_c (glX12_thingCode_0 _ (List.mem_of_getElem? (i := 20) rfl)) (goodIn_n)) (glX12_thingCode_2))
set_option maxRecDepth 20000 in
theorem gX12_thingCode_X12_wrong : GoodIn wsX12_thingCode (wsV RX12 223 RX12 yX12_wrong wsX12_wrong) := goodIn_app (goodIn_of _ (by decide +kernel)) ggX12_thingCode_X12_wrong
theorem dX12_thingCode_0 : decode cX12_thingCode 0 = .ok (.aload_n 0, 1) := by decide +kernel
theorem dX12_thingCode_1 : decode cX12_thingCode 1 = .ok (.invokevirtual 212, 3) := by decide +kernel
theorem dX12_thingCode_4 : decode cX12_thingCode 4 = .ok (.istore_n 2, 1) := by decide +kernel
theorem dX12_thingCode_5 : decode cX12_thingCode 5 = .ok (.aload_n 0, 1) := by decide +kernel
theorem dX12_thingCode_6 : decode cX12_thingCode 6 = .ok (.getfield 206, 3) := by decide +kernel
theorem dX12_thingCode_9 : decode cX12_thingCode 9 = .ok (.istore_n 3, 1) := by decide +kernel
theorem dX12_thingCode_10 : decode cX12_thingCode 10 = .ok (.aload_n 0, 1) := by decide +kernel
theorem dX12_thingCode_11 : decode cX12_thingCode 11 = .ok (.iconst 4, 1) := by decide +kernel
theorem dX12_thingCode_12 : decode cX12_thingCode 12 = .ok (.iconst 4, 1) := by decide +kernel
theorem dX12_thingCode_13 : decode cX12_thingCode 13 = .ok (.iconst 0, 1) := by decide +kernel
theorem dX12_thingCode_14 : decode cX12_thingCode 14 = .ok (.sipush 9999, 3) := by decide +kernel
theorem dX12_thingCode_17 : decode cX12_thingCode 17 = .ok (.invokevirtual 232, 3) := by decide +kernel
theorem dX12_thingCode_20 : decode cX12_thingCode 20 = .ok (.ifCond .ne 5, 3) := by decide +kernel
theorem dX12_thingCode_23 : decode cX12_thingCode 23 = .ok (.iconst 0, 1) := by decide +kernel
theorem dX12_thingCode_24 : decode cX12_thingCode 24 = .ok (.ireturn, 1) := by decide +kernel
theorem dX12_thingCode_25 : decode cX12_thingCode 25 = .ok (.aload_n 0, 1) := by decide +kernel
theorem dX12_thingCode_26 : decode cX12_thingCode 26 = .ok (.aload_n 0, 1) := by decide +kernel
theorem dX12_thingCode_27 : decode cX12_thingCode 27 = .ok (.getfield 229, 3) := by decide +kernel
theorem dX12_thingCode_30 : decode cX12_thingCode 30 = .ok (.invokevirtual 189, 3) := by decide +kernel
theorem dX12_thingCode_33 : decode cX12_thingCode 33 = .ok (.istore 4, 2) := by decide +kernel
theorem dX12_thingCode_35 : decode cX12_thingCode 35 = .ok (.iload 4, 2) := by decide +kernel
theorem dX12_thingCode_37 : decode cX12_thingCode 37 = .ok (.iconst (-1), 1) := by decide +kernel
theorem dX12_thingCode_38 : decode cX12_thingCode 38 = .ok (.if_icmp .eq 9, 3) := by decide +kernel
theorem dX12_thingCode_41 : decode cX12_thingCode 41 = .ok (.iload 4, 2) := by decide +kernel
theorem dX12_thingCode_43 : decode cX12_thingCode 43 = .ok (.iload_n 1, 1) := by decide +kernel
theorem dX12_thingCode_44 : decode cX12_thingCode 44 = .ok (.if_icmp .ne 9, 3) := by decide +kernel
theorem dX12_thingCode_47 : decode cX12_thingCode 47 = .ok (.aload_n 0, 1) := by decide +kernel
theorem dX12_thingCode_48 : decode cX12_thingCode 48 = .ok (.iload_n 3, 1) := by decide +kernel
theorem dX12_thingCode_49 : decode cX12_thingCode 49 = .ok (.invokevirtual 223, 3) := by decide +kernel
theorem dX12_thingCode_52 : decode cX12_thingCode 52 = .ok (.ireturn, 1) := by decide +kernel
theorem dX12_thingCode_53 : decode cX12_thingCode 53 = .ok (.aload_n 0, 1) := by decide +kernel
theorem dX12_thingCode_54 : decode cX12_thingCode 54 = .ok (.iload 4, 2) := by decide +kernel
theorem dX12_thingCode_56 : decode cX12_thingCode 56 = .ok (.putfield 229, 3) := by decide +kernel
theorem dX12_thingCode_59 : decode cX12_thingCode 59 = .ok (.iconst 1, 1) := by decide +kernel
theorem dX12_thingCode_60 : decode cX12_thingCode 60 = .ok (.ireturn, 1) := by decide +kernel
set_option maxRecDepth 20000 in
theorem glX12_readRule_0 : GoodIn wsX12_readRule (wsX12_readRule_r1) := goodIn_sub (fun _ h => List.mem_cons_of_mem _ (List.mem_append_left _ (List.mem_append_left _ (h)))) (by decide +kernel)
set_option maxRecDepth 20000 in
theorem glX12_readRule_1 : GoodIn wsX12_readRule (wsX12_readRule_r2) := goodIn_sub (fun _ h => List.mem_cons_of_mem _ (List.mem_append_left _ (List.mem_append_right _ (List.mem_append_left _ (h))))) (by decide +kernel)
set_option maxRecDepth 20000 in
theorem glX12_readRule_3 : GoodIn wsX12_readRule (wsX120) := goodIn_sub (fun _ h => List.mem_cons_of_mem _ (List.mem_append_right _ (h))) ag_wsX120
set_option maxRecDepth 20000 in
theorem ggX12_readRule_X12_isWord : GoodIn wsX12_readRule wsX12_isWord := goodIn_c (glX12_readRule_0 _ (List.mem_of_getElem? (i := 15) rfl)) (goodIn_app (goodIn_c (glX12_readRule_0 _ (List.mem_of_getElem? (i := 1) rfl)) (goodIn_c (glX12_readRule_0 _ (List.mem_of_getElem? (i := 16) rfl)) (goodIn_c (glX12_readRule_0 _ (List.mem_of_getElem? (i := 17) rfl)) (goodIn_c (glX12_readRule_0 _ (List.mem_of_getElem? (i := 18) rfl)) (goodIn_c (glX12_readRule_0 _ (List.mem_of_getElem? (i := 19) rfl)) (goodIn_c (glX12_readRule_0 _ (List.mem_of_getElem? (i := 14) rfl)) (goodIn_c (glX12_readRule_0 _ (List.mem_of_getElem? (i := 20) rfl)) (goodIn_c (glX12_readRule_0 _ (List.mem_of_getElem? (i := 21) rfl)) (goodIn_c (glX12_readRule_0 _ (List.mem_of_getElem? (i := 22) rfl)) (goodIn_c (glX12_readRule_0 _ (List.mem_of_getElem? (i := 23) rfl)) (goodIn_c (glX12_readRule_1 _ (List.mem_of_getElem? (i := 0) rfl)) (goodIn_c (glX12_readRule_1 _ (List.mem_of_getElem? (i := 1) rfl)) (goodIn_n))))))))))))) (glX12_readRule_3))
set_option maxRecDepth 20000 in
theorem gX12_readRule_X12_isWord : GoodIn wsX12_readRule (wsV RX12 219 RX12 yX12_isWord wsX12_isWord) := goodIn_app (goodIn_of _ (by decide +kernel)) ggX12_readRule_X12_isWord
set_option maxRecDepth 20000 in
theorem ggX12_readRule_X12_wordEnd : GoodIn wsX12_readRule wsX12_wordEnd := goodIn_c (glX12_readRule_1 _ (List.mem_of_getElem? (i := 1) rfl)) (goodIn_app (goodIn_c (glX12_readRule_0 _ (List.mem_of_getElem? (i := 1) rfl)) (goodIn_c (glX12_readRule_0 _ (List.mem_of_getElem? (i := 21) rfl)) (goodIn_c (glX12_readRule_0 _ (List.mem_of_getElem? (i := 16) rfl)) (goodIn_n)))) (glX12_readRule_3))
set_option maxRecDepth 20000 in
theorem gX12_readRule_X12_wordEnd : GoodIn wsX12_readRule (wsV RX12 216 RX12 yX12_wordEnd wsX12_wordEnd) := goodIn_app (goodIn_of _ (by decide +kernel)) ggX12_readRule_X12_wordEnd
set_option maxRecDepth 20000 in
theorem ggX12_readRule_X12_thingCode : GoodIn wsX12_readRule wsX12_thingCode := goodIn_c (glX12_readRule_1 _ (List.mem_of_getElem? (i := 5) rfl)) (goodIn_app (goodIn_app (goodIn_c (glX12_readRule_0 _ (List.mem_of_getElem? (i := 1) rfl)) (goodIn_c (glX12_readRule_0 _ (List.mem_of_getElem? (i := 2) rfl)) (goodIn_c (glX12_readRule_0 _ (List.mem_of_getElem? (i := 17) rfl)) (goodIn_c (glX12_readRule_0 _ (List.mem_of_getElem? (i := 18) rfl)) (goodIn_c (glX12_readRule_0 _ (List.mem_of_getElem? (i := 19) rfl)) (goodIn_c (glX12_readRule_0 _ (List.mem_of_getElem? (i := 14) rfl)) (goodIn_c (glX12_readRule_0 _ (List.mem_of_getElem? (i := 20) rfl)) (goodIn_c (glX12_readRule_0 _ (List.mem_of_getElem? (i := 21) rfl)) (goodIn_c (glX12_readRule_0 _ (List.mem_of_getElem? (i := 16) rfl)) (goodIn_c (glX12_readRule_1 _ (List.mem_of_getElem? (i := 6) rfl)) (goodIn_c (glX12_readRule_1 _ (List.mem_of_getElem? (i := 7) rfl)) (goodIn_c (glX12_readRule_1 _ (List.mem_of_getElem? (i := 8) rfl)) (goodIn_c (glX12_readRule_1 _ (List.mem_of_getElem? (i := 9) rfl)) (goodIn_c (glX12_readRule_1 _ (List.mem_of_getElem? (i := 10) rfl)) (goodIn_c (glX12_readRule_1 _ (List.mem_of_getElem? (i := 11) rfl)) (goodIn_c (glX12_readRule_1 _ (List.mem_of_getElem? (i := 12) rfl)) (goodIn_c (glX12_readRule_1 _ (List.mem_of_getElem? (i := 13) rfl)) (goodIn_c (glX12_readRule_1 _ (List.mem_of_getElem? (i := 14) rfl)) (goodIn_c (glX12_readRule_1 _ (List.mem_of_getElem? (i := 15) rfl)) (goodIn_c (glX12_readRule_1 _ (List.mem_of_getElem? (i := 16) rfl)) (goodIn_c (glX12_readRule_1 _ (List.mem_of_getElem? (i := 17) rfl)) (goodIn_c (glX12_readRule_1 _ (List.mem_of_getElem? (i := 18) rfl)) (goodIn_c (glX12_readRule_1 _ (List.mem_of_getElem? (i := 19) rfl)) (goodIn_c (glX12_readRule_1 _ (List.mem_of_getElem? (i := 20) rfl)) (goodIn_n))))))))))))))))))))))))) (goodIn_c (glX12_readRule_1 _ (List.mem_of_getElem? (i := 21) rfl)) (goodIn_c (glX12_readRule_1 _ (List.mem_of_getElem? (i := 22) rfl)) (goodIn_c (glX12_readRule_1 _ (List.mem_of_getElem? (i := 23) rfl)) (goodIn_n))))) (glX12_readRule_3))
set_option maxRecDepth 20000 in
theorem gX12_readRule_X12_thingCode : GoodIn wsX12_readRule (wsV RX12 238 RX12 yX12_thingCode wsX12_thingCode) := goodIn_app (goodIn_of _ (by decide +kernel)) ggX12_readRule_X12_thingCode
set_option maxRecDepth 20000 in
theorem glX12_readRule_2 : GoodIn wsX12_readRule (wsX12_readRule_r3) := goodIn_sub (fun _ h => List.mem_cons_of_mem _ (List.mem_append_left _ (List.mem_append_right _ (List.mem_append_right _ (h))))) (by decide +kernel)
set_option maxRecDepth 20000 in
theorem ggX12_readRule_X12_passes : GoodIn wsX12_readRule wsX12_passes := goodIn_c (glX12_readRule_2 _ (List.mem_of_getElem? (i := 3) rfl)) (goodIn_app (goodIn_c (glX12_readRule_0 _ (List.mem_of_getElem? (i := 1) rfl)) (goodIn_c (glX12_readRule_0 _ (List.mem_of_getElem? (i := 11) rfl)) (goodIn_c (glX12_readRule_0 _ (List.mem_of_getElem? (i := 12) rfl)) (goodIn_c (glX12_readRule_0 _ (List.mem_of_getElem? (i := 13) rfl)) (goodIn_c (glX12_readRule_0 _ (List.mem_of_getElem? (i := 14) rfl)) (goodIn_c (glX12_readRule_0 _ (List.mem_of_getElem? (i := 15) rfl)) (goodIn_c (glX12_readRule_0 _ (List.mem_of_getElem? (i := 16) rfl)) (goodIn_c (glX12_readRule_0 _ (List.mem_of_getElem? (i := 17) rfl)) (goodIn_c (glX12_readRule_0 _ (List.mem_of_getElem? (i := 18) rfl)) (goodIn_c (glX12_readRule_0 _ (List.mem_of_getElem? (i := 19) rfl)) (goodIn_c (glX12_readRule_0 _ (List.mem_of_getElem? (i := 20) rfl)) (goodIn_c (glX12_readRule_0 _ (List.mem_of_getElem? (i := 21) rfl)) (goodIn_c (glX12_readRule_0 _ (List.mem_of_getElem? (i := 22) rfl)) (goodIn_c (glX12_readRule_0 _ (List.mem_of_getElem? (i := 23) rfl)) (goodIn_c (glX12_readRule_1 _ (List.mem_of_getElem? (i := 0) rfl)) (goodIn_c (glX12_readRule_1 _ (List.mem_of_getElem? (i := 1) rfl)) (goodIn_c (glX12_readRule_1 _ (List.mem_of_getElem? (i := 13) rfl)) (goodIn_c (glX12_readRule_1 _ (List.mem_of_getElem? (i := 14) rfl)) (goodIn_c (glX12_readRule_1 _ (List.mem_of_getElem? (i := 15) rfl)) (goodIn_c (glX12_readRule_1 _ (List.mem_of_getElem? (i := 16) rfl)) (goodIn_c (glX12_readRule_1 _ (List.mem_of_getElem? (i := 17) rfl)) (goodIn_n)))))))))))))))))))))) (glX12_readRule_3))
set_option maxRecDepth 20000 in
theorem gX12_readRule_X12_passes : GoodIn wsX12_readRule (wsV RX12 243 RX12 yX12_passes wsX12_passes) := goodIn_app (goodIn_of _ (by decide +kernel)) ggX12_readRule_X12_passes
set_option maxRecDepth 20000 in
theorem ggX12_readRule_X12_wrong : GoodIn wsX12_readRule wsX12_wrong := goodIn_c (glX12_readRule_1 _ (List.mem_of_getElem? (i := 16) rfl)) (goodIn_app (goodIn_c (glX12_readRule_1 _ (List.mem_of_getElem? (i := 17) rfl)) (goodIn_n)) (glX12_readRule_3))
set_option maxRecDepth 20000 in
theorem gX12_readRule_X12_wrong : GoodIn wsX12_readRule (wsV RX12 223 RX12 yX12_wrong wsX12_wrong) := goodIn_app (goodIn_of _ (by decide +kernel)) ggX12_readRule_X12_wrong
set_option maxRecDepth 20000 in
theorem ggX12_readRule_X12_digits : GoodIn wsX12_readRule wsX12_digits := goodIn_c (glX12_readRule_1 _ (List.mem_of_getElem? (i := 9) rfl)) (goodIn_app (goodIn_c (glX12_readRule_0 _ (List.mem_of_getElem? (i := 1) rfl)) (goodIn_c (glX12_readRule_0 _ (List.mem_of_getElem? (i := 21) rfl)) (goodIn_c (glX12_readRule_0 _ (List.mem_of_getElem? (i := 16) rfl)) (goodIn_c (glX12_readRule_0 _ (List.mem_of_getElem? (i := 2) rfl)) (goodIn_c (glX12_readRule_0 _ (List.mem_of_getElem? (i := 17) rfl)) (goodIn_c (glX12_readRule_0 _ (List.mem_of_getElem? (i := 18) rfl)) (goodIn_c (glX12_readRule_0 _ (List.mem_of_getElem? (i := 19) rfl)) (goodIn_c (glX12_readRule_0 _ (List.mem_of_getElem? (i := 14) rfl)) (goodIn_c (glX12_readRule_0 _ (List.mem_of_getElem? (i := 20) rfl)) (goodIn_c (glX12_readRule_1 _ (List.mem_of_getElem? (i := 10) rfl)) (goodIn_c (glX12_readRule_1 _ (List.mem_of_getElem? (i := 11) rfl)) (goodIn_c (glX12_readRule_1 _ (List.mem_of_getElem? (i := 12) rfl)) (goodIn_c (glX12_readRule_1 _ (List.mem_of_getElem? (i := 13) rfl)) (goodIn_c (glX12_readRule_1 _ (List.mem_of_getElem? (i := 14) rfl)) (goodIn_c (glX12_readRule_1 _ (List.mem_of_getElem? (i := 15) rfl)) (goodIn_c (glX12_readRule_1 _ (List.mem_of_getElem? (i := 16) rfl)) (goodIn_c (glX12_readRule_1 _ (List.mem_of_getElem? (i := 17) rfl)) (goodIn_n)))))))))))))))))) (glX12_readRule_3))
set_option maxRecDepth 20000 in
theorem gX12_readRule_X12_digits : GoodIn wsX12_readRule (wsV RX12 232 RX12 yX12_digits wsX12_digits) := goodIn_app (goodIn_of _ (by decide +kernel)) ggX12_readRule_X12_digits
theorem dX12_readRule_0 : decode cX12_readRule 0 = .ok (.aload_n 0, 1) := by decide +kernel
theorem dX12_readRule_1 : decode cX12_readRule 1 = .ok (.ldc2_w 236, 3) := by decide +kernel
theorem dX12_readRule_4 : decode cX12_readRule 4 = .ok (.invokevirtual 219, 3) := by decide +kernel
theorem dX12_readRule_7 : decode cX12_readRule 7 = .ok (.ifCond .eq 58, 3) := by decide +kernel
theorem dX12_readRule_10 : decode cX12_readRule 10 = .ok (.aload_n 0, 1) := by decide +kernel
theorem dX12_readRule_11 : decode cX12_readRule 11 = .ok (.aload_n 0, 1) := by decide +kernel
theorem dX12_readRule_12 : decode cX12_readRule 12 = .ok (.invokevirtual 216, 3) := by decide +kernel
theorem dX12_readRule_15 : decode cX12_readRule 15 = .ok (.putfield 206, 3) := by decide +kernel
theorem dX12_readRule_18 : decode cX12_readRule 18 = .ok (.aload_n 0, 1) := by decide +kernel
theorem dX12_readRule_19 : decode cX12_readRule 19 = .ok (.iconst (-1), 1) := by decide +kernel
theorem dX12_readRule_20 : decode cX12_readRule 20 = .ok (.invokevirtual 238, 3) := by decide +kernel
theorem dX12_readRule_23 : decode cX12_readRule 23 = .ok (.ifCond .ne 5, 3) := by decide +kernel
theorem dX12_readRule_26 : decode cX12_readRule 26 = .ok (.iconst 0, 1) := by decide +kernel
theorem dX12_readRule_27 : decode cX12_readRule 27 = .ok (.ireturn, 1) := by decide +kernel
theorem dX12_readRule_28 : decode cX12_readRule 28 = .ok (.aload_n 0, 1) := by decide +kernel
theorem dX12_readRule_29 : decode cX12_readRule 29 = .ok (.getfield 229, 3) := by decide +kernel
theorem dX12_readRule_32 : decode cX12_readRule 32 = .ok (.istore_n 1, 1) := by decide +kernel
theorem dX12_readRule_33 : decode cX12_readRule 33 = .ok (.aload_n 0, 1) := by decide +kernel
theorem dX12_readRule_34 : decode cX12_readRule 34 = .ok (.ldc2_w 241, 3) := by decide +kernel
theorem dX12_readRule_37 : decode cX12_readRule 37 = .ok (.invokevirtual 243, 3) := by decide +kernel
theorem dX12_readRule_40 : decode cX12_readRule 40 = .ok (.ifCond .eq 11, 3) := by decide +kernel
theorem dX12_readRule_43 : decode cX12_readRule 43 = .ok (.aload_n 0, 1) := by decide +kernel
theorem dX12_readRule_44 : decode cX12_readRule 44 = .ok (.iload_n 1, 1) := by decide +kernel
theorem dX12_readRule_45 : decode cX12_readRule 45 = .ok (.invokevirtual 238, 3) := by decide +kernel
theorem dX12_readRule_48 : decode cX12_readRule 48 = .ok (.ifCond .ne 5, 3) := by decide +kernel
theorem dX12_readRule_51 : decode cX12_readRule 51 = .ok (.iconst 0, 1) := by decide +kernel
theorem dX12_readRule_52 : decode cX12_readRule 52 = .ok (.ireturn, 1) := by decide +kernel
theorem dX12_readRule_53 : decode cX12_readRule 53 = .ok (.aload_n 0, 1) := by decide +kernel
theorem dX12_readRule_54 : decode cX12_readRule 54 = .ok (.getfield 55, 3) := by decide +kernel
theorem dX12_readRule_57 : decode cX12_readRule 57 = .ok (.iload_n 1, 1) := by decide +kernel
theorem dX12_readRule_58 : decode cX12_readRule 58 = .ok (.aload_n 0, 1) := by decide +kernel
theorem dX12_readRule_59 : decode cX12_readRule 59 = .ok (.getfield 229, 3) := by decide +kernel
theorem dX12_readRule_62 : decode cX12_readRule 62 = .ok (.iastore, 1) := by decide +kernel
theorem dX12_readRule_63 : decode cX12_readRule 63 = .ok (.iconst 1, 1) := by decide +kernel
theorem dX12_readRule_64 : decode cX12_readRule 64 = .ok (.ireturn, 1) := by decide +kernel
theorem dX12_readRule_65 : decode cX12_readRule 65 = .ok (.aload_n 0, 1) := by decide +kernel
theorem dX12_readRule_66 : decode cX12_readRule 66 = .ok (.ldc2_w 246, 3) := by decide +kernel
theorem dX12_readRule_69 : decode cX12_readRule 69 = .ok (.invokevirtual 219, 3) := by decide +kernel
theorem dX12_readRule_72 : decode cX12_readRule 72 = .ok (.ifCond .eq 7, 3) := by decide +kernel
theorem dX12_readRule_75 : decode cX12_readRule 75 = .ok (.iconst 0, 1) := by decide +kernel
theorem dX12_readRule_76 : decode cX12_readRule 76 = .ok (.goto 46, 3) := by decide +kernel
theorem dX12_readRule_79 : decode cX12_readRule 79 = .ok (.aload_n 0, 1) := by decide +kernel
theorem dX12_readRule_80 : decode cX12_readRule 80 = .ok (.ldc2_w 248, 3) := by decide +kernel
theorem dX12_readRule_83 : decode cX12_readRule 83 = .ok (.invokevirtual 219, 3) := by decide +kernel
theorem dX12_readRule_86 : decode cX12_readRule 86 = .ok (.ifCond .eq 7, 3) := by decide +kernel
theorem dX12_readRule_89 : decode cX12_readRule 89 = .ok (.iconst 1, 1) := by decide +kernel
theorem dX12_readRule_90 : decode cX12_readRule 90 = .ok (.goto 32, 3) := by decide +kernel
theorem dX12_readRule_93 : decode cX12_readRule 93 = .ok (.aload_n 0, 1) := by decide +kernel
theorem dX12_readRule_94 : decode cX12_readRule 94 = .ok (.ldc2_w 250, 3) := by decide +kernel
theorem dX12_readRule_97 : decode cX12_readRule 97 = .ok (.invokevirtual 219, 3) := by decide +kernel
theorem dX12_readRule_100 : decode cX12_readRule 100 = .ok (.ifCond .eq 7, 3) := by decide +kernel
theorem dX12_readRule_103 : decode cX12_readRule 103 = .ok (.iconst 2, 1) := by decide +kernel
theorem dX12_readRule_104 : decode cX12_readRule 104 = .ok (.goto 18, 3) := by decide +kernel
theorem dX12_readRule_107 : decode cX12_readRule 107 = .ok (.aload_n 0, 1) := by decide +kernel
theorem dX12_readRule_108 : decode cX12_readRule 108 = .ok (.ldc2_w 252, 3) := by decide +kernel
theorem dX12_readRule_111 : decode cX12_readRule 111 = .ok (.invokevirtual 219, 3) := by decide +kernel
theorem dX12_readRule_114 : decode cX12_readRule 114 = .ok (.ifCond .eq 7, 3) := by decide +kernel
theorem dX12_readRule_117 : decode cX12_readRule 117 = .ok (.iconst 3, 1) := by decide +kernel
theorem dX12_readRule_118 : decode cX12_readRule 118 = .ok (.goto 4, 3) := by decide +kernel
theorem dX12_readRule_121 : decode cX12_readRule 121 = .ok (.iconst (-1), 1) := by decide +kernel
theorem dX12_readRule_122 : decode cX12_readRule 122 = .ok (.istore_n 1, 1) := by decide +kernel
theorem dX12_readRule_123 : decode cX12_readRule 123 = .ok (.iload_n 1, 1) := by decide +kernel
theorem dX12_readRule_124 : decode cX12_readRule 124 = .ok (.iconst (-1), 1) := by decide +kernel
theorem dX12_readRule_125 : decode cX12_readRule 125 = .ok (.if_icmp .ne 12, 3) := by decide +kernel
theorem dX12_readRule_128 : decode cX12_readRule 128 = .ok (.aload_n 0, 1) := by decide +kernel
theorem dX12_readRule_129 : decode cX12_readRule 129 = .ok (.aload_n 0, 1) := by decide +kernel
theorem dX12_readRule_130 : decode cX12_readRule 130 = .ok (.getfield 206, 3) := by decide +kernel
theorem dX12_readRule_133 : decode cX12_readRule 133 = .ok (.invokevirtual 223, 3) := by decide +kernel
theorem dX12_readRule_136 : decode cX12_readRule 136 = .ok (.ireturn, 1) := by decide +kernel
theorem dX12_readRule_137 : decode cX12_readRule 137 = .ok (.aload_n 0, 1) := by decide +kernel
theorem dX12_readRule_138 : decode cX12_readRule 138 = .ok (.aload_n 0, 1) := by decide +kernel
theorem dX12_readRule_139 : decode cX12_readRule 139 = .ok (.invokevirtual 216, 3) := by decide +kernel
theorem dX12_readRule_142 : decode cX12_readRule 142 = .ok (.putfield 206, 3) := by decide +kernel
theorem dX12_readRule_145 : decode cX12_readRule 145 = .ok (.aload_n 0, 1) := by decide +kernel
theorem dX12_readRule_146 : decode cX12_readRule 146 = .ok (.iconst 1, 1) := by decide +kernel
theorem dX12_readRule_147 : decode cX12_readRule 147 = .ok (.bipush 6, 2) := by decide +kernel
theorem dX12_readRule_149 : decode cX12_readRule 149 = .ok (.iconst 0, 1) := by decide +kernel
theorem dX12_readRule_150 : decode cX12_readRule 150 = .ok (.iload_n 1, 1) := by decide +kernel
theorem dX12_readRule_151 : decode cX12_readRule 151 = .ok (.iconst 1, 1) := by decide +kernel
theorem dX12_readRule_152 : decode cX12_readRule 152 = .ok (.if_icmp .ne 9, 3) := by decide +kernel
theorem dX12_readRule_155 : decode cX12_readRule 155 = .ok (.sipush 9999, 3) := by decide +kernel
theorem dX12_readRule_158 : decode cX12_readRule 158 = .ok (.goto 15, 3) := by decide +kernel
theorem dX12_readRule_161 : decode cX12_readRule 161 = .ok (.iload_n 1, 1) := by decide +kernel
theorem dX12_readRule_162 : decode cX12_readRule 162 = .ok (.iconst 2, 1) := by decide +kernel
theorem dX12_readRule_163 : decode cX12_readRule 163 = .ok (.if_icmp .ne 8, 3) := by decide +kernel
theorem dX12_readRule_166 : decode cX12_readRule 166 = .ok (.ldc 254, 2) := by decide +kernel
theorem dX12_readRule_168 : decode cX12_readRule 168 = .ok (.goto 5, 3) := by decide +kernel
theorem dX12_readRule_171 : decode cX12_readRule 171 = .ok (.bipush 99, 2) := by decide +kernel
theorem dX12_readRule_173 : decode cX12_readRule 173 = .ok (.invokevirtual 232, 3) := by decide +kernel
theorem dX12_readRule_176 : decode cX12_readRule 176 = .ok (.ifCond .ne 5, 3) := by decide +kernel
theorem dX12_readRule_179 : decode cX12_readRule 179 = .ok (.iconst 0, 1) := by decide +kernel
theorem dX12_readRule_180 : decode cX12_readRule 180 = .ok (.ireturn, 1) := by decide +kernel
theorem dX12_readRule_181 : decode cX12_readRule 181 = .ok (.aload_n 0, 1) := by decide +kernel
theorem dX12_readRule_182 : decode cX12_readRule 182 = .ok (.getfield 52, 3) := by decide +kernel
theorem dX12_readRule_185 : decode cX12_readRule 185 = .ok (.iload_n 1, 1) := by decide +kernel
theorem dX12_readRule_186 : decode cX12_readRule 186 = .ok (.aload_n 0, 1) := by decide +kernel
theorem dX12_readRule_187 : decode cX12_readRule 187 = .ok (.getfield 229, 3) := by decide +kernel
theorem dX12_readRule_190 : decode cX12_readRule 190 = .ok (.iastore, 1) := by decide +kernel
theorem dX12_readRule_191 : decode cX12_readRule 191 = .ok (.iconst 1, 1) := by decide +kernel
theorem dX12_readRule_192 : decode cX12_readRule 192 = .ok (.ireturn, 1) := by decide +kernel
theorem dX12_beginText_0 : decode cX12_beginText 0 = .ok (.aload_n 0, 1) := by decide +kernel
theorem dX12_beginText_1 : decode cX12_beginText 1 = .ok (.aload_n 0, 1) := by decide +kernel
theorem dX12_beginText_2 : decode cX12_beginText 2 = .ok (.getfield 178, 3) := by decide +kernel
theorem dX12_beginText_5 : decode cX12_beginText 5 = .ok (.putfield 209, 3) := by decide +kernel
theorem dX12_beginText_8 : decode cX12_beginText 8 = .ok (.aload_n 0, 1) := by decide +kernel
theorem dX12_beginText_9 : decode cX12_beginText 9 = .ok (.iconst 0, 1) := by decide +kernel
theorem dX12_beginText_10 : decode cX12_beginText 10 = .ok (.putfield 178, 3) := by decide +kernel
theorem dX12_beginText_13 : decode cX12_beginText 13 = .ok (.aload_n 0, 1) := by decide +kernel
theorem dX12_beginText_14 : decode cX12_beginText 14 = .ok (.iconst 0, 1) := by decide +kernel
theorem dX12_beginText_15 : decode cX12_beginText 15 = .ok (.putfield 206, 3) := by decide +kernel
theorem dX12_beginText_18 : decode cX12_beginText 18 = .ok (.aload_n 0, 1) := by decide +kernel
theorem dX12_beginText_19 : decode cX12_beginText 19 = .ok (.iconst (-1), 1) := by decide +kernel
theorem dX12_beginText_20 : decode cX12_beginText 20 = .ok (.putfield 61, 3) := by decide +kernel
theorem dX12_beginText_23 : decode cX12_beginText 23 = .ok (.return_, 1) := by decide +kernel
set_option maxRecDepth 20000 in
theorem glX12_rules_0 : GoodIn wsX12_rules (wsX12_rules_r1) := goodIn_sub (fun _ h => List.mem_cons_of_mem _ (List.mem_append_left _ (List.mem_append_left _ (h)))) (by decide +kernel)
set_option maxRecDepth 20000 in
theorem glX12_rules_3 : GoodIn wsX12_rules (wsX120) := goodIn_sub (fun _ h => List.mem_cons_of_mem _ (List.mem_append_right _ (h))) ag_wsX120
set_option maxRecDepth 20000 in
theorem ggX12_rules_X12_beginText : GoodIn wsX12_rules wsX12_beginText := goodIn_c (glX12_rules_0 _ (List.mem_of_getElem? (i := 11) rfl)) (goodIn_app (goodIn_c (glX12_rules_0 _ (List.mem_of_getElem? (i := 12) rfl)) (goodIn_c (glX12_rules_0 _ (List.mem_of_getElem? (i := 13) rfl)) (goodIn_c (glX12_rules_0 _ (List.mem_of_getElem? (i := 6) rfl)) (goodIn_c (glX12_rules_0 _ (List.mem_of_getElem? (i := 14) rfl)) (goodIn_n))))) (glX12_rules_3))
set_option maxRecDepth 20000 in
theorem gX12_rules_X12_beginText : GoodIn wsX12_rules (wsV RX12 255 RX12 yX12_beginText wsX12_beginText) := goodIn_app (goodIn_of _ (by decide +kernel)) ggX12_rules_X12_beginText
set_option maxRecDepth 20000 in
theorem glX12_rules_1 : GoodIn wsX12_rules (wsX12_rules_r2) := goodIn_sub (fun _ h => List.mem_cons_of_mem _ (List.mem_append_left _ (List.mem_append_right _ (List.mem_append_left _ (h))))) (by decide +kernel)
set_option maxRecDepth 20000 in
theorem glX12_rules_2 : GoodIn wsX12_rules (wsX12_rules_r3) := goodIn_sub (fun _ h => List.mem_cons_of_mem _ (List.mem_append_left _ (List.mem_append_right _ (List.mem_append_right _ (h))))) (by decide +kernel)
set_option maxRecDepth 20000 in
theorem ggX12_rules_X12_readRule : GoodIn wsX12_rules wsX12_readRule := goodIn_c (glX12_rules_0 _ (List.mem_of_getElem? (i := 18) rfl)) (goodIn_app (goodIn_app (goodIn_c (glX12_rules_0 _ (List.mem_of_getElem? (i := 19) rfl)) (goodIn_c (glX12_rules_0 _ (List.mem_of_getElem? (i := 6) rfl)) (goodIn_c (glX12_rules_0 _ (List.mem_of_getElem? (i := 20) rfl)) (goodIn_c (glX12_rules_0 _ (List.mem_of_getElem? (i := 21) rfl)) (goodIn_c (glX12_rules_0 _ (List.mem_of_getElem? (i := 4) rfl)) (goodIn_c (glX12_rules_0 _ (List.mem_of_getElem? (i := 22) rfl)) (goodIn_c (glX12_rules_0 _ (List.mem_of_getElem? (i := 23) rfl)) (goodIn_c (glX12_rules_1 _ (List.mem_of_getElem? (i := 0) rfl)) (goodIn_c (glX12_rules_1 _ (List.mem_of_getElem? (i := 1) rfl)) (goodIn_c (glX12_rules_1 _ (List.mem_of_getElem? (i := 2) rfl)) (goodIn_c (glX12_rules_0 _ (List.mem_of_getElem? (i := 1) rfl)) (goodIn_c (glX12_rules_1 _ (List.mem_of_getElem? (i := 3) rfl)) (goodIn_c (glX12_rules_1 _ (List.mem_of_getElem? (i := 4) rfl)) (goodIn_c (glX12_rules_1 _ (List.mem_of_getElem? (i := 5) rfl)) (goodIn_c (glX12_rules_0 _ (List.mem_of_getElem? (i := 10) rfl)) (goodIn_c (glX12_rules_1 _ (List.mem_of_getElem? (i := 6) rfl)) (goodIn_c (glX12_rules_1 _ (List.mem_of_getElem? (i := 7) rfl)) (goodIn_c (glX12_rules_1 _ (List.mem_of_getElem? (i := 8) rfl)) (goodIn_c (glX12_rules_1 _ (List.mem_of_getElem? (i := 9) rfl)) (goodIn_c (glX12_rules_1 _ (List.mem_of_getElem? (i := 10) rfl)) (goodIn_c (glX12_rules_1 _ (List.mem_of_getElem? (i := 11) rfl)) (goodIn_c (glX12_rules_0 _ (List.mem_of_getElem? (i := 13) rfl)) (goodIn_c (glX12_rules_1 _ (List.mem_of_getElem? (i := 12) rfl)) (goodIn_c (glX12_rules_1 _ (List.mem_of_getElem? (i := 13) rfl)) (goodIn_n))))))))))))))))))))))))) (goodIn_app (goodIn_c (glX12_rules_1 _ (List.mem_of_getElem? (i := 14) rfl)) (goodIn_c (glX12_rules_1 _ (List.mem_of_getElem? (i := 15) rfl)) (goodIn_c (glX12_rules_1 _ (List.mem_of_getElem? (i := 16) rfl)) (goodIn_c (glX12_rules_1 _ (List.mem_of_getElem? (i := 17) rfl)) (goodIn_c (glX12_rules_1 _ (List.mem_of_getElem? (i := 18) rfl)) (goodIn_c (glX12_rules_1 _ (List.mem_of_getElem? (i := 19) rfl)) (goodIn_c (glX12_rules_1 _ (List.mem_of_getElem? (i := 20) rfl)) (goodIn_c (glX12_rules_1 _ (List.mem_of_getElem? (i := 21) rfl)) (goodIn_c (glX12_rules_1 _ (List.mem_of_getElem? (i := 22) rfl)) (goodIn_c (glX12_rules_1 _ (List.mem_of_getElem? (i := 23) rfl)) (goodIn_c (glX12_rules_2 _ (List.mem_of_getElem? (i := 0) rfl)) (goodIn_c (glX12_rules_2 _ (List.mem_of_getElem? (i := 1) rfl)) (goodIn_c (glX12_rules_2 _ (List.mem_of_getElem? (i := 2) rfl)) (goodIn_c (glX12_rules_2 _ (List.mem_of_getElem? (i := 3) rfl)) (goodIn_c (glX12_rules_2 _ (List.mem_of_getElem? (i := 4) rfl)) (goodIn_c (glX12_rules_2 _ (List.mem_of_getElem? (i := 5) rfl)) (goodIn_c (glX12_rules_2 _ (List.mem_of_getElem? (i := 6) rfl)) (goodIn_c (glX12_rules_0 _ (List.mem_of_getElem? (i := 14) rfl)) (goodIn_c (glX12_rules_2 _ (List.mem_of_getElem? (i := 7) rfl)) (goodIn_c (glX12_rules_2 _ (List.mem_of_getElem? (i := 8) rfl)) (goodIn_c (glX12_rules_2 _ (List.mem_of_getElem? (i := 9) rfl)) (goodIn_c (glX12_rules_2 _ (List.mem_of_getElem? (i := 10) rfl)) (goodIn_c (glX12_rules_0 _ (List.mem_of_getElem? (i := 3) rfl)) (goodIn_c (glX12_rules_2 _ (List.mem_of_getElem? (i := 11) rfl)) (goodIn_n))))))))))))))))))))))))) (goodIn_c (glX12_rules_2 _ (List.mem_of_getElem? (i := 12) rfl)) (goodIn_c (glX12_rules_2 _ (List.mem_of_getElem? (i := 13) rfl)) (goodIn_c (glX12_rules_2 _ (List.mem_of_getElem? (i := 14) rfl)) (goodIn_c (glX12_rules_2 _ (List.mem_of_getElem? (i := 15) rfl)) (goodIn_n))))))) (glX12_rules_3))
set_option maxRecDepth 20000 in
theorem gX12_rules_X12_readRule : GoodIn wsX12_rules (wsV RX12 258 RX12 yX12_readRule wsX12_readRule) := goodIn_app (goodIn_of _ (by decide +kernel)) ggX12_rules_X12_readRule
set_option maxRecDepth 20000 in
theorem ggX12_rules_X12_sign : GoodIn wsX12_rules wsX12_sign := goodIn_c (glX12_rules_1 _ (List.mem_of_getElem? (i := 11) rfl)) (goodIn_app (goodIn_c (glX12_rules_0 _ (List.mem_of_getElem? (i := 6) rfl)) (goodIn_c (glX12_rules_0 _ (List.mem_of_getElem? (i := 13) rfl)) (goodIn_c (glX12_rules_1 _ (List.mem_of_getElem? (i := 7) rfl)) (goodIn_n)))) (glX12_rules_3))
set_option maxRecDepth 20000 in
theorem gX12_rules_X12_sign : GoodIn wsX12_rules (wsV RX12 212 RX12 yX12_sign wsX12_sign) := goodIn_app (goodIn_of _ (by decide +kernel)) ggX12_rules_X12_sign
set_option maxRecDepth 20000 in
theorem ggX12_rules_X12_wrong : GoodIn wsX12_rules wsX12_wrong := goodIn_c (glX12_rules_2 _ (List.mem_of_getElem? (i := 6) rfl)) (goodIn_app (goodIn_c (glX12_rules_0 _ (List.mem_of_getElem? (i := 14) rfl)) (goodIn_n)) (glX12_rules_3))
set_option maxRecDepth 20000 in
theorem gX12_rules_X12_wrong : GoodIn wsX12_rules (wsV RX12 223 RX12 yX12_wrong wsX12_wrong) := goodIn_app (goodIn_of _ (by decide +kernel)) ggX12_rules_X12_wrong
theorem dX12_rules_0 : decode cX12_rules 0 = .ok (.aload_n 0, 1) := by decide +kernel
theorem dX12_rules_1 : decode cX12_rules 1 = .ok (.invokevirtual 255, 3) := by decide +kernel
theorem dX12_rules_4 : decode cX12_rules 4 = .ok (.aload_n 0, 1) := by decide +kernel
theorem dX12_rules_5 : decode cX12_rules 5 = .ok (.iconst 0, 1) := by decide +kernel
theorem dX12_rules_6 : decode cX12_rules 6 = .ok (.putfield 165, 3) := by decide +kernel
theorem dX12_rules_9 : decode cX12_rules 9 = .ok (.iconst 0, 1) := by decide +kernel
theorem dX12_rules_10 : decode cX12_rules 10 = .ok (.istore_n 1, 1) := by decide +kernel
theorem dX12_rules_11 : decode cX12_rules 11 = .ok (.iload_n 1, 1) := by decide +kernel
theorem dX12_rules_12 : decode cX12_rules 12 = .ok (.iconst 4, 1) := by decide +kernel
theorem dX12_rules_13 : decode cX12_rules 13 = .ok (.if_icmp .ge 21, 3) := by decide +kernel
theorem dX12_rules_16 : decode cX12_rules 16 = .ok (.aload_n 0, 1) := by decide +kernel
theorem dX12_rules_17 : decode cX12_rules 17 = .ok (.getfield 52, 3) := by decide +kernel
theorem dX12_rules_20 : decode cX12_rules 20 = .ok (.iload_n 1, 1) := by decide +kernel
theorem dX12_rules_21 : decode cX12_rules 21 = .ok (.aload_n 0, 1) := by decide +kernel
theorem dX12_rules_22 : decode cX12_rules 22 = .ok (.getfield 49, 3) := by decide +kernel
theorem dX12_rules_25 : decode cX12_rules 25 = .ok (.iload_n 1, 1) := by decide +kernel
theorem dX12_rules_26 : decode cX12_rules 26 = .ok (.iaload, 1) := by decide +kernel
theorem dX12_rules_27 : decode cX12_rules 27 = .ok (.iastore, 1) := by decide +kernel
theorem dX12_rules_28 : decode cX12_rules 28 = .ok (.iinc 1 1, 3) := by decide +kernel
theorem dX12_rules_31 : decode cX12_rules 31 = .ok (.goto (-20), 3) := by decide +kernel
theorem dX12_rules_34 : decode cX12_rules 34 = .ok (.iconst 0, 1) := by decide +kernel
theorem dX12_rules_35 : decode cX12_rules 35 = .ok (.istore_n 1, 1) := by decide +kernel
theorem dX12_rules_36 : decode cX12_rules 36 = .ok (.iload_n 1, 1) := by decide +kernel
theorem dX12_rules_37 : decode cX12_rules 37 = .ok (.aload_n 0, 1) := by decide +kernel
theorem dX12_rules_38 : decode cX12_rules 38 = .ok (.getfield 168, 3) := by decide +kernel
theorem dX12_rules_41 : decode cX12_rules 41 = .ok (.if_icmp .ge 21, 3) := by decide +kernel
theorem dX12_rules_44 : decode cX12_rules 44 = .ok (.aload_n 0, 1) := by decide +kernel
theorem dX12_rules_45 : decode cX12_rules 45 = .ok (.getfield 55, 3) := by decide +kernel
theorem dX12_rules_48 : decode cX12_rules 48 = .ok (.iload_n 1, 1) := by decide +kernel
theorem dX12_rules_49 : decode cX12_rules 49 = .ok (.aload_n 0, 1) := by decide +kernel
theorem dX12_rules_50 : decode cX12_rules 50 = .ok (.getfield 37, 3) := by decide +kernel
theorem dX12_rules_53 : decode cX12_rules 53 = .ok (.iload_n 1, 1) := by decide +kernel
theorem dX12_rules_54 : decode cX12_rules 54 = .ok (.iaload, 1) := by decide +kernel
theorem dX12_rules_55 : decode cX12_rules 55 = .ok (.iastore, 1) := by decide +kernel
theorem dX12_rules_56 : decode cX12_rules 56 = .ok (.iinc 1 1, 3) := by decide +kernel
theorem dX12_rules_59 : decode cX12_rules 59 = .ok (.goto (-23), 3) := by decide +kernel
theorem dX12_rules_62 : decode cX12_rules 62 = .ok (.iconst 0, 1) := by decide +kernel
theorem dX12_rules_63 : decode cX12_rules 63 = .ok (.istore_n 1, 1) := by decide +kernel
theorem dX12_rules_64 : decode cX12_rules 64 = .ok (.iconst 1, 1) := by decide +kernel
theorem dX12_rules_65 : decode cX12_rules 65 = .ok (.istore_n 2, 1) := by decide +kernel
theorem dX12_rules_66 : decode cX12_rules 66 = .ok (.iconst 1, 1) := by decide +kernel
theorem dX12_rules_67 : decode cX12_rules 67 = .ok (.istore_n 3, 1) := by decide +kernel
theorem dX12_rules_68 : decode cX12_rules 68 = .ok (.iload_n 2, 1) := by decide +kernel
theorem dX12_rules_69 : decode cX12_rules 69 = .ok (.ifCond .eq 51, 3) := by decide +kernel
theorem dX12_rules_72 : decode cX12_rules 72 = .ok (.iload_n 3, 1) := by decide +kernel
theorem dX12_rules_73 : decode cX12_rules 73 = .ok (.ifCond .eq 47, 3) := by decide +kernel
theorem dX12_rules_76 : decode cX12_rules 76 = .ok (.aload_n 0, 1) := by decide +kernel
theorem dX12_rules_77 : decode cX12_rules 77 = .ok (.invokevirtual 258, 3) := by decide +kernel
theorem dX12_rules_80 : decode cX12_rules 80 = .ok (.istore_n 3, 1) := by decide +kernel
theorem dX12_rules_81 : decode cX12_rules 81 = .ok (.iinc 1 1, 3) := by decide +kernel
theorem dX12_rules_84 : decode cX12_rules 84 = .ok (.iload_n 3, 1) := by decide +kernel
theorem dX12_rules_85 : decode cX12_rules 85 = .ok (.ifCond .eq 16, 3) := by decide +kernel
theorem dX12_rules_88 : decode cX12_rules 88 = .ok (.aload_n 0, 1) := by decide +kernel
theorem dX12_rules_89 : decode cX12_rules 89 = .ok (.invokevirtual 212, 3) := by decide +kernel
theorem dX12_rules_92 : decode cX12_rules 92 = .ok (.bipush 59, 2) := by decide +kernel
theorem dX12_rules_94 : decode cX12_rules 94 = .ok (.if_icmp .ne 7, 3) := by decide +kernel
theorem dX12_rules_97 : decode cX12_rules 97 = .ok (.iconst 1, 1) := by decide +kernel
theorem dX12_rules_98 : decode cX12_rules 98 = .ok (.goto 4, 3) := by decide +kernel
theorem dX12_rules_101 : decode cX12_rules 101 = .ok (.iconst 0, 1) := by decide +kernel
theorem dX12_rules_102 : decode cX12_rules 102 = .ok (.istore_n 2, 1) := by decide +kernel
theorem dX12_rules_103 : decode cX12_rules 103 = .ok (.iload_n 2, 1) := by decide +kernel
theorem dX12_rules_104 : decode cX12_rules 104 = .ok (.ifCond .eq (-36), 3) := by decide +kernel
theorem dX12_rules_107 : decode cX12_rules 107 = .ok (.aload_n 0, 1) := by decide +kernel
theorem dX12_rules_108 : decode cX12_rules 108 = .ok (.dup, 1) := by decide +kernel
theorem dX12_rules_109 : decode cX12_rules 109 = .ok (.getfield 206, 3) := by decide +kernel
theorem dX12_rules_112 : decode cX12_rules 112 = .ok (.iconst 1, 1) := by decide +kernel
theorem dX12_rules_113 : decode cX12_rules 113 = .ok (.iadd, 1) := by decide +kernel
theorem dX12_rules_114 : decode cX12_rules 114 = .ok (.putfield 206, 3) := by decide +kernel
theorem dX12_rules_117 : decode cX12_rules 117 = .ok (.goto (-49), 3) := by decide +kernel
theorem dX12_rules_120 : decode cX12_rules 120 = .ok (.iload_n 3, 1) := by decide +kernel
theorem dX12_rules_121 : decode cX12_rules 121 = .ok (.ifCond .eq 20, 3) := by decide +kernel
theorem dX12_rules_124 : decode cX12_rules 124 = .ok (.aload_n 0, 1) := by decide +kernel
theorem dX12_rules_125 : decode cX12_rules 125 = .ok (.invokevirtual 212, 3) := by decide +kernel
theorem dX12_rules_128 : decode cX12_rules 128 = .ok (.iconst (-1), 1) := by decide +kernel
theorem dX12_rules_129 : decode cX12_rules 129 = .ok (.if_icmp .eq 12, 3) := by decide +kernel
theorem dX12_rules_132 : decode cX12_rules 132 = .ok (.aload_n 0, 1) := by decide +kernel
theorem dX12_rules_133 : decode cX12_rules 133 = .ok (.aload_n 0, 1) := by decide +kernel
theorem dX12_rules_134 : decode cX12_rules 134 = .ok (.getfield 206, 3) := by decide +kernel
theorem dX12_rules_137 : decode cX12_rules 137 = .ok (.invokevirtual 223, 3) := by decide +kernel
theorem dX12_rules_140 : decode cX12_rules 140 = .ok (.istore_n 3, 1) := by decide +kernel
theorem dX12_rules_141 : decode cX12_rules 141 = .ok (.iload_n 3, 1) := by decide +kernel
theorem dX12_rules_142 : decode cX12_rules 142 = .ok (.ifCond .ne 10, 3) := by decide +kernel
theorem dX12_rules_145 : decode cX12_rules 145 = .ok (.aload_n 0, 1) := by decide +kernel
theorem dX12_rules_146 : decode cX12_rules 146 = .ok (.iconst 1, 1) := by decide +kernel
theorem dX12_rules_147 : decode cX12_rules 147 = .ok (.putfield 165, 3) := by decide +kernel
theorem dX12_rules_150 : decode cX12_rules 150 = .ok (.iconst 0, 1) := by decide +kernel
theorem dX12_rules_151 : decode cX12_rules 151 = .ok (.ireturn, 1) := by decide +kernel
theorem dX12_rules_152 : decode cX12_rules 152 = .ok (.iconst 0, 1) := by decide +kernel
theorem dX12_rules_153 : decode cX12_rules 153 = .ok (.istore 4, 2) := by decide +kernel
theorem dX12_rules_155 : decode cX12_rules 155 = .ok (.iload 4, 2) := by decide +kernel
theorem dX12_rules_157 : decode cX12_rules 157 = .ok (.iconst 4, 1) := by decide +kernel
theorem dX12_rules_158 : decode cX12_rules 158 = .ok (.if_icmp .ge 23, 3) := by decide +kernel
theorem dX12_rules_161 : decode cX12_rules 161 = .ok (.aload_n 0, 1) := by decide +kernel
theorem dX12_rules_162 : decode cX12_rules 162 = .ok (.getfield 49, 3) := by decide +kernel
theorem dX12_rules_165 : decode cX12_rules 165 = .ok (.iload 4, 2) := by decide +kernel
theorem dX12_rules_167 : decode cX12_rules 167 = .ok (.aload_n 0, 1) := by decide +kernel
theorem dX12_rules_168 : decode cX12_rules 168 = .ok (.getfield 52, 3) := by decide +kernel
theorem dX12_rules_171 : decode cX12_rules 171 = .ok (.iload 4, 2) := by decide +kernel
theorem dX12_rules_173 : decode cX12_rules 173 = .ok (.iaload, 1) := by decide +kernel
theorem dX12_rules_174 : decode cX12_rules 174 = .ok (.iastore, 1) := by decide +kernel
theorem dX12_rules_175 : decode cX12_rules 175 = .ok (.iinc 4 1, 3) := by decide +kernel
theorem dX12_rules_178 : decode cX12_rules 178 = .ok (.goto (-23), 3) := by decide +kernel
theorem dX12_rules_181 : decode cX12_rules 181 = .ok (.iconst 0, 1) := by decide +kernel
theorem dX12_rules_182 : decode cX12_rules 182 = .ok (.istore 4, 2) := by decide +kernel
theorem dX12_rules_184 : decode cX12_rules 184 = .ok (.iload 4, 2) := by decide +kernel
theorem dX12_rules_186 : decode cX12_rules 186 = .ok (.aload_n 0, 1) := by decide +kernel
theorem dX12_rules_187 : decode cX12_rules 187 = .ok (.getfield 168, 3) := by decide +kernel
theorem dX12_rules_190 : decode cX12_rules 190 = .ok (.if_icmp .ge 23, 3) := by decide +kernel
theorem dX12_rules_193 : decode cX12_rules 193 = .ok (.aload_n 0, 1) := by decide +kernel
theorem dX12_rules_194 : decode cX12_rules 194 = .ok (.getfield 37, 3) := by decide +kernel
theorem dX12_rules_197 : decode cX12_rules 197 = .ok (.iload 4, 2) := by decide +kernel
theorem dX12_rules_199 : decode cX12_rules 199 = .ok (.aload_n 0, 1) := by decide +kernel
theorem dX12_rules_200 : decode cX12_rules 200 = .ok (.getfield 55, 3) := by decide +kernel
theorem dX12_rules_203 : decode cX12_rules 203 = .ok (.iload 4, 2) := by decide +kernel
theorem dX12_rules_205 : decode cX12_rules 205 = .ok (.iaload, 1) := by decide +kernel
theorem dX12_rules_206 : decode cX12_rules 206 = .ok (.iastore, 1) := by decide +kernel
theorem dX12_rules_207 : decode cX12_rules 207 = .ok (.iinc 4 1, 3) := by decide +kernel
theorem dX12_rules_210 : decode cX12_rules 210 = .ok (.goto (-26), 3) := by decide +kernel
theorem dX12_rules_213 : decode cX12_rules 213 = .ok (.iload_n 1, 1) := by decide +kernel
theorem dX12_rules_214 : decode cX12_rules 214 = .ok (.ireturn, 1) := by decide +kernel
set_option maxRecDepth 20000 in
theorem glX12_says_0 : GoodIn wsX12_says ([.fieldLink RX12 165 "PostHouseModel" "thrown" "I", .fieldLink RX12 49 "PostHouseModel" "rule" "[I", .methodLink RX12 185 yX12_isIn, .static yX12_isIn, .initialized RX12, .code yX12_isIn cX12_isIn 3 (some .boolean)]) := goodIn_sub (fun _ h => List.mem_cons_of_mem _ (List.mem_append_left _ (h))) (by decide +kernel)
set_option maxRecDepth 20000 in
theorem ggX12_says_X12_isIn : GoodIn wsX12_says wsX12_isIn := goodIn_c (glX12_says_0 _ (List.mem_of_getElem? (i := 5) rfl)) (goodIn_n)
set_option maxRecDepth 20000 in
theorem gX12_says_X12_isIn : GoodIn wsX12_says (va_wsS RX12 185 yX12_isIn wsX12_isIn) := goodIn_app (goodIn_of _ (by decide +kernel)) ggX12_says_X12_isIn
theorem dX12_says_0 : decode cX12_says 0 = .ok (.aload_n 0, 1) := by decide +kernel
theorem dX12_says_1 : decode cX12_says 1 = .ok (.iload_n 1, 1) := by decide +kernel
theorem dX12_says_2 : decode cX12_says 2 = .ok (.iconst 0, 1) := by decide +kernel
theorem dX12_says_3 : decode cX12_says 3 = .ok (.iconst 3, 1) := by decide +kernel
theorem dX12_says_4 : decode cX12_says 4 = .ok (.invokestatic 185, 3) := by decide +kernel
theorem dX12_says_7 : decode cX12_says 7 = .ok (.ifCond .ne 7, 3) := by decide +kernel
theorem dX12_says_10 : decode cX12_says 10 = .ok (.iconst 1, 1) := by decide +kernel
theorem dX12_says_11 : decode cX12_says 11 = .ok (.goto 4, 3) := by decide +kernel
theorem dX12_says_14 : decode cX12_says 14 = .ok (.iconst 0, 1) := by decide +kernel
theorem dX12_says_15 : decode cX12_says 15 = .ok (.putfield 165, 3) := by decide +kernel
theorem dX12_says_18 : decode cX12_says 18 = .ok (.aload_n 0, 1) := by decide +kernel
theorem dX12_says_19 : decode cX12_says 19 = .ok (.getfield 165, 3) := by decide +kernel
theorem dX12_says_22 : decode cX12_says 22 = .ok (.ifCond .le 7, 3) := by decide +kernel
theorem dX12_says_25 : decode cX12_says 25 = .ok (.iconst 0, 1) := by decide +kernel
theorem dX12_says_26 : decode cX12_says 26 = .ok (.goto 9, 3) := by decide +kernel
theorem dX12_says_29 : decode cX12_says 29 = .ok (.aload_n 0, 1) := by decide +kernel
theorem dX12_says_30 : decode cX12_says 30 = .ok (.getfield 49, 3) := by decide +kernel
theorem dX12_says_33 : decode cX12_says 33 = .ok (.iload_n 1, 1) := by decide +kernel
theorem dX12_says_34 : decode cX12_says 34 = .ok (.iaload, 1) := by decide +kernel
theorem dX12_says_35 : decode cX12_says 35 = .ok (.ireturn, 1) := by decide +kernel
set_option maxRecDepth 20000 in
theorem glX12_instead_0 : GoodIn wsX12_instead ([.fieldLink RX12 165 "PostHouseModel" "thrown" "I", .fieldLink RX12 37 "PostHouseModel" "other" "[I", .methodLink RX12 193 yX12_isThing, .instanceMethod yX12_isThing, .selects RX12 yX12_isThing yX12_isThing, .initialized RX12, .code yX12_isThing cX12_isThing 2 (some .boolean), .fieldLink RX12 168 "PostHouseModel" "things" "I"]) := goodIn_sub (fun _ h => List.mem_cons_of_mem _ (List.mem_append_left _ (h))) (by decide +kernel)
set_option maxRecDepth 20000 in
theorem glX12_instead_1 : GoodIn wsX12_instead (wsX120) := goodIn_sub (fun _ h => List.mem_cons_of_mem _ (List.mem_append_right _ (h))) ag_wsX120
set_option maxRecDepth 20000 in
theorem ggX12_instead_X12_isThing : GoodIn wsX12_instead wsX12_isThing := goodIn_c (glX12_instead_0 _ (List.mem_of_getElem? (i := 6) rfl)) (goodIn_app (goodIn_c (glX12_instead_0 _ (List.mem_of_getElem? (i := 7) rfl)) (goodIn_n)) (glX12_instead_1))
set_option maxRecDepth 20000 in
theorem gX12_instead_X12_isThing : GoodIn wsX12_instead (wsV RX12 193 RX12 yX12_isThing wsX12_isThing) := goodIn_app (goodIn_of _ (by decide +kernel)) ggX12_instead_X12_isThing
theorem dX12_instead_0 : decode cX12_instead 0 = .ok (.aload_n 0, 1) := by decide +kernel
theorem dX12_instead_1 : decode cX12_instead 1 = .ok (.aload_n 0, 1) := by decide +kernel
theorem dX12_instead_2 : decode cX12_instead 2 = .ok (.iload_n 1, 1) := by decide +kernel
theorem dX12_instead_3 : decode cX12_instead 3 = .ok (.invokevirtual 193, 3) := by decide +kernel
theorem dX12_instead_6 : decode cX12_instead 6 = .ok (.ifCond .ne 7, 3) := by decide +kernel
theorem dX12_instead_9 : decode cX12_instead 9 = .ok (.iconst 1, 1) := by decide +kernel
theorem dX12_instead_10 : decode cX12_instead 10 = .ok (.goto 4, 3) := by decide +kernel
theorem dX12_instead_13 : decode cX12_instead 13 = .ok (.iconst 0, 1) := by decide +kernel
theorem dX12_instead_14 : decode cX12_instead 14 = .ok (.putfield 165, 3) := by decide +kernel
theorem dX12_instead_17 : decode cX12_instead 17 = .ok (.aload_n 0, 1) := by decide +kernel
theorem dX12_instead_18 : decode cX12_instead 18 = .ok (.getfield 165, 3) := by decide +kernel
theorem dX12_instead_21 : decode cX12_instead 21 = .ok (.ifCond .le 7, 3) := by decide +kernel
theorem dX12_instead_24 : decode cX12_instead 24 = .ok (.iconst 0, 1) := by decide +kernel
theorem dX12_instead_25 : decode cX12_instead 25 = .ok (.goto 9, 3) := by decide +kernel
theorem dX12_instead_28 : decode cX12_instead 28 = .ok (.aload_n 0, 1) := by decide +kernel
theorem dX12_instead_29 : decode cX12_instead 29 = .ok (.getfield 37, 3) := by decide +kernel
theorem dX12_instead_32 : decode cX12_instead 32 = .ok (.iload_n 1, 1) := by decide +kernel
theorem dX12_instead_33 : decode cX12_instead 33 = .ok (.iaload, 1) := by decide +kernel
theorem dX12_instead_34 : decode cX12_instead 34 = .ok (.ireturn, 1) := by decide +kernel
set_option maxRecDepth 20000 in
theorem glX12_readLine_0 : GoodIn wsX12_readLine (wsX12_readLine_r1) := goodIn_sub (fun _ h => List.mem_cons_of_mem _ (List.mem_append_left _ (List.mem_append_left _ (h)))) (by decide +kernel)
set_option maxRecDepth 20000 in
theorem glX12_readLine_1 : GoodIn wsX12_readLine (wsX12_readLine_r2) := goodIn_sub (fun _ h => List.mem_cons_of_mem _ (List.mem_append_left _ (List.mem_append_right _ (h)))) (by decide +kernel)
set_option maxRecDepth 20000 in
theorem glX12_readLine_2 : GoodIn wsX12_readLine (wsX120) := goodIn_sub (fun _ h => List.mem_cons_of_mem _ (List.mem_append_right _ (h))) ag_wsX120
set_option maxRecDepth 20000 in
theorem ggX12_readLine_X12_digits : GoodIn wsX12_readLine wsX12_digits := goodIn_c (glX12_readLine_0 _ (List.mem_of_getElem? (i := 9) rfl)) (goodIn_app (goodIn_c (glX12_readLine_0 _ (List.mem_of_getElem? (i := 10) rfl)) (goodIn_c (glX12_readLine_0 _ (List.mem_of_getElem? (i := 11) rfl)) (goodIn_c (glX12_readLine_0 _ (List.mem_of_getElem? (i := 12) rfl)) (goodIn_c (glX12_readLine_0 _ (List.mem_of_getElem? (i := 2) rfl)) (goodIn_c (glX12_readLine_0 _ (List.mem_of_getElem? (i := 13) rfl)) (goodIn_c (glX12_readLine_0 _ (List.mem_of_getElem? (i := 14) rfl)) (goodIn_c (glX12_readLine_0 _ (List.mem_of_getElem? (i := 15) rfl)) (goodIn_c (glX12_readLine_0 _ (List.mem_of_getElem? (i := 8) rfl)) (goodIn_c (glX12_readLine_0 _ (List.mem_of_getElem? (i := 16) rfl)) (goodIn_c (glX12_readLine_0 _ (List.mem_of_getElem? (i := 17) rfl)) (goodIn_c (glX12_readLine_0 _ (List.mem_of_getElem? (i := 18) rfl)) (goodIn_c (glX12_readLine_0 _ (List.mem_of_getElem? (i := 19) rfl)) (goodIn_c (glX12_readLine_0 _ (List.mem_of_getElem? (i := 20) rfl)) (goodIn_c (glX12_readLine_0 _ (List.mem_of_getElem? (i := 21) rfl)) (goodIn_c (glX12_readLine_0 _ (List.mem_of_getElem? (i := 22) rfl)) (goodIn_c (glX12_readLine_0 _ (List.mem_of_getElem? (i := 23) rfl)) (goodIn_c (glX12_readLine_1 _ (List.mem_of_getElem? (i := 0) rfl)) (goodIn_n)))))))))))))))))) (glX12_readLine_2))
set_option maxRecDepth 20000 in
theorem gX12_readLine_X12_digits : GoodIn wsX12_readLine (wsV RX12 232 RX12 yX12_digits wsX12_digits) := goodIn_app (goodIn_of _ (by decide +kernel)) ggX12_readLine_X12_digits
set_option maxRecDepth 20000 in
theorem ggX12_readLine_X12_passes : GoodIn wsX12_readLine wsX12_passes := goodIn_c (glX12_readLine_1 _ (List.mem_of_getElem? (i := 4) rfl)) (goodIn_app (goodIn_c (glX12_readLine_0 _ (List.mem_of_getElem? (i := 10) rfl)) (goodIn_c (glX12_readLine_1 _ (List.mem_of_getElem? (i := 5) rfl)) (goodIn_c (glX12_readLine_1 _ (List.mem_of_getElem? (i := 6) rfl)) (goodIn_c (glX12_readLine_1 _ (List.mem_of_getElem? (i := 7) rfl)) (goodIn_c (glX12_readLine_0 _ (List.mem_of_getElem? (i := 8) rfl)) (goodIn_c (glX12_readLine_1 _ (List.mem_of_getElem? (i := 8) rfl)) (goodIn_c (glX12_readLine_0 _ (List.mem_of_getElem? (i := 12) rfl)) (goodIn_c (glX12_readLine_0 _ (List.mem_of_getElem? (i := 13) rfl)) (goodIn_c (glX12_readLine_0 _ (List.mem_of_getElem? (i := 14) rfl)) (goodIn_c (glX12_readLine_0 _ (List.mem_of_getElem? (i := 15) rfl)) (goodIn_c (glX12_readLine_0 _ (List.mem_of_getElem? (i := 16) rfl)) (goodIn_c (glX12_readLine_0 _ (List.mem_of_getElem? (i := 11) rfl)) (goodIn_c (glX12_readLine_1 _ (List.mem_of_getElem? (i := 9) rfl)) (goodIn_c (glX12_readLine_1 _ (List.mem_of_getElem? (i := 10) rfl)) (goodIn_c (glX12_readLine_1 _ (List.mem_of_getElem? (i := 11) rfl)) (goodIn_c (glX12_readLine_1 _ (List.mem_of_getElem? (i := 12) rfl)) (goodIn_c (glX12_readLine_0 _ (List.mem_of_getElem? (i := 20) rfl)) (goodIn_c (glX12_readLine_0 _ (List.mem_of_getElem? (i := 21) rfl)) (goodIn_c (glX12_readLine_0 _ (List.mem_of_getElem? (i := 22) rfl)) (goodIn_c (glX12_readLine_0 _ (List.mem_of_getElem? (i := 23) rfl)) (goodIn_c (glX12_readLine_1 _ (List.mem_of_getElem? (i := 0) rfl)) (goodIn_n)))))))))))))))))))))) (glX12_readLine_2))
set_option maxRecDepth 20000 in
theorem gX12_readLine_X12_passes : GoodIn wsX12_readLine (wsV RX12 243 RX12 yX12_passes wsX12_passes) := goodIn_app (goodIn_of _ (by decide +kernel)) ggX12_readLine_X12_passes
theorem dX12_readLine_0 : decode cX12_readLine 0 = .ok (.aload_n 0, 1) := by decide +kernel
theorem dX12_readLine_1 : decode cX12_readLine 1 = .ok (.iconst 4, 1) := by decide +kernel
theorem dX12_readLine_2 : decode cX12_readLine 2 = .ok (.iconst 4, 1) := by decide +kernel
theorem dX12_readLine_3 : decode cX12_readLine 3 = .ok (.iconst 0, 1) := by decide +kernel
theorem dX12_readLine_4 : decode cX12_readLine 4 = .ok (.sipush 9999, 3) := by decide +kernel
theorem dX12_readLine_7 : decode cX12_readLine 7 = .ok (.invokevirtual 232, 3) := by decide +kernel
theorem dX12_readLine_10 : decode cX12_readLine 10 = .ok (.ifCond .ne 5, 3) := by decide +kernel
theorem dX12_readLine_13 : decode cX12_readLine 13 = .ok (.iconst 0, 1) := by decide +kernel
theorem dX12_readLine_14 : decode cX12_readLine 14 = .ok (.ireturn, 1) := by decide +kernel
theorem dX12_readLine_15 : decode cX12_readLine 15 = .ok (.aload_n 0, 1) := by decide +kernel
theorem dX12_readLine_16 : decode cX12_readLine 16 = .ok (.getfield 65, 3) := by decide +kernel
theorem dX12_readLine_19 : decode cX12_readLine 19 = .ok (.aload_n 0, 1) := by decide +kernel
theorem dX12_readLine_20 : decode cX12_readLine 20 = .ok (.getfield 262, 3) := by decide +kernel
theorem dX12_readLine_23 : decode cX12_readLine 23 = .ok (.aload_n 0, 1) := by decide +kernel
theorem dX12_readLine_24 : decode cX12_readLine 24 = .ok (.getfield 229, 3) := by decide +kernel
theorem dX12_readLine_27 : decode cX12_readLine 27 = .ok (.iastore, 1) := by decide +kernel
theorem dX12_readLine_28 : decode cX12_readLine 28 = .ok (.aload_n 0, 1) := by decide +kernel
theorem dX12_readLine_29 : decode cX12_readLine 29 = .ok (.ldc2_w 265, 3) := by decide +kernel
theorem dX12_readLine_32 : decode cX12_readLine 32 = .ok (.invokevirtual 243, 3) := by decide +kernel
theorem dX12_readLine_35 : decode cX12_readLine 35 = .ok (.ifCond .eq 16, 3) := by decide +kernel
theorem dX12_readLine_38 : decode cX12_readLine 38 = .ok (.aload_n 0, 1) := by decide +kernel
theorem dX12_readLine_39 : decode cX12_readLine 39 = .ok (.iconst 1, 1) := by decide +kernel
theorem dX12_readLine_40 : decode cX12_readLine 40 = .ok (.bipush 6, 2) := by decide +kernel
theorem dX12_readLine_42 : decode cX12_readLine 42 = .ok (.iconst 1, 1) := by decide +kernel
theorem dX12_readLine_43 : decode cX12_readLine 43 = .ok (.bipush 99, 2) := by decide +kernel
theorem dX12_readLine_45 : decode cX12_readLine 45 = .ok (.invokevirtual 232, 3) := by decide +kernel
theorem dX12_readLine_48 : decode cX12_readLine 48 = .ok (.ifCond .ne 5, 3) := by decide +kernel
theorem dX12_readLine_51 : decode cX12_readLine 51 = .ok (.iconst 0, 1) := by decide +kernel
theorem dX12_readLine_52 : decode cX12_readLine 52 = .ok (.ireturn, 1) := by decide +kernel
theorem dX12_readLine_53 : decode cX12_readLine 53 = .ok (.aload_n 0, 1) := by decide +kernel
theorem dX12_readLine_54 : decode cX12_readLine 54 = .ok (.getfield 68, 3) := by decide +kernel
theorem dX12_readLine_57 : decode cX12_readLine 57 = .ok (.aload_n 0, 1) := by decide +kernel
theorem dX12_readLine_58 : decode cX12_readLine 58 = .ok (.getfield 262, 3) := by decide +kernel
theorem dX12_readLine_61 : decode cX12_readLine 61 = .ok (.aload_n 0, 1) := by decide +kernel
theorem dX12_readLine_62 : decode cX12_readLine 62 = .ok (.getfield 229, 3) := by decide +kernel
theorem dX12_readLine_65 : decode cX12_readLine 65 = .ok (.iastore, 1) := by decide +kernel
theorem dX12_readLine_66 : decode cX12_readLine 66 = .ok (.aload_n 0, 1) := by decide +kernel
theorem dX12_readLine_67 : decode cX12_readLine 67 = .ok (.dup, 1) := by decide +kernel
theorem dX12_readLine_68 : decode cX12_readLine 68 = .ok (.getfield 262, 3) := by decide +kernel
theorem dX12_readLine_71 : decode cX12_readLine 71 = .ok (.iconst 1, 1) := by decide +kernel
theorem dX12_readLine_72 : decode cX12_readLine 72 = .ok (.iadd, 1) := by decide +kernel
theorem dX12_readLine_73 : decode cX12_readLine 73 = .ok (.putfield 262, 3) := by decide +kernel
theorem dX12_readLine_76 : decode cX12_readLine 76 = .ok (.iconst 1, 1) := by decide +kernel
theorem dX12_readLine_77 : decode cX12_readLine 77 = .ok (.ireturn, 1) := by decide +kernel
set_option maxRecDepth 20000 in
theorem glX12_readLetter_0 : GoodIn wsX12_readLetter (wsX12_readLetter_r1) := goodIn_sub (fun _ h => List.mem_cons_of_mem _ (List.mem_append_left _ (List.mem_append_left _ (h)))) (by decide +kernel)
set_option maxRecDepth 20000 in
theorem glX12_readLetter_1 : GoodIn wsX12_readLetter (wsX12_readLetter_r2) := goodIn_sub (fun _ h => List.mem_cons_of_mem _ (List.mem_append_left _ (List.mem_append_right _ (h)))) (by decide +kernel)
set_option maxRecDepth 20000 in
theorem glX12_readLetter_2 : GoodIn wsX12_readLetter (wsX120) := goodIn_sub (fun _ h => List.mem_cons_of_mem _ (List.mem_append_right _ (h))) ag_wsX120
set_option maxRecDepth 20000 in
theorem ggX12_readLetter_X12_readLine : GoodIn wsX12_readLetter wsX12_readLine := goodIn_c (glX12_readLetter_0 _ (List.mem_of_getElem? (i := 12) rfl)) (goodIn_app (goodIn_app (goodIn_c (glX12_readLetter_0 _ (List.mem_of_getElem? (i := 13) rfl)) (goodIn_c (glX12_readLetter_0 _ (List.mem_of_getElem? (i := 0) rfl)) (goodIn_c (glX12_readLetter_0 _ (List.mem_of_getElem? (i := 4) rfl)) (goodIn_c (glX12_readLetter_0 _ (List.mem_of_getElem? (i := 14) rfl)) (goodIn_c (glX12_readLetter_0 _ (List.mem_of_getElem? (i := 15) rfl)) (goodIn_c (glX12_readLetter_0 _ (List.mem_of_getElem? (i := 16) rfl)) (goodIn_c (glX12_readLetter_0 _ (List.mem_of_getElem? (i := 17) rfl)) (goodIn_c (glX12_readLetter_0 _ (List.mem_of_getElem? (i := 18) rfl)) (goodIn_c (glX12_readLetter_0 _ (List.mem_of_getElem? (i := 11) rfl)) (goodIn_c (glX12_readLetter_0 _ (List.mem_of_getElem? (i := 19) rfl)) (goodIn_c (glX12_readLetter_0 _ (List.mem_of_getElem? (i := 1) rfl)) (goodIn_c (glX12_readLetter_0 _ (List.mem_of_getElem? (i := 20) rfl)) (goodIn_c (glX12_readLetter_0 _ (List.mem_of_getElem? (i := 21) rfl)) (goodIn_c (glX12_readLetter_0 _ (List.mem_of_getElem? (i := 22) rfl)) (goodIn_c (glX12_readLetter_0 _ (List.mem_of_getElem? (i := 23) rfl)) (goodIn_c (glX12_readLetter_1 _ (List.mem_of_getElem? (i := 0) rfl)) (goodIn_c (glX12_readLetter_1 _ (List.mem_of_getElem? (i := 1) rfl)) (goodIn_c (glX12_readLetter_1 _ (List.mem_of_getElem? (i := 2) rfl)) (goodIn_c (glX12_readLetter_1 _ (List.mem_of_getElem? (i := 3) rfl)) (goodIn_c (glX12_readLetter_1 _ (List.mem_of_getElem? (i := 4) rfl)) (goodIn_c (glX12_readLetter_1 _ (List.mem_of_getElem? (i := 5) rfl)) (goodIn_c (glX12_readLetter_1 _ (List.mem_of_getElem? (i := 6) rfl)) (goodIn_c (glX12_readLetter_1 _ (List.mem_of_getElem? (i := 7) rfl)) (goodIn_c (glX12_readLetter_1 _ (List.mem_of_getElem? (i := 8) rfl)) (goodIn_n))))))))))))))))))))))))) (goodIn_c (glX12_readLetter_1 _ (List.mem_of_getElem? (i := 9) rfl)) (goodIn_c (glX12_readLetter_1 _ (List.mem_of_getElem? (i := 10) rfl)) (goodIn_c (glX12_readLetter_1 _ (List.mem_of_getElem? (i := 11) rfl)) (goodIn_c (glX12_readLetter_1 _ (List.mem_of_getElem? (i := 12) rfl)) (goodIn_c (glX12_readLetter_1 _ (List.mem_of_getElem? (i := 13) rfl)) (goodIn_c (glX12_readLetter_1 _ (List.mem_of_getElem? (i := 14) rfl)) (goodIn_c (glX12_readLetter_1 _ (List.mem_of_getElem? (i := 15) rfl)) (goodIn_c (glX12_readLetter_1 _ (List.mem_of_getElem? (i := 16) rfl)) (goodIn_c (glX12_readLetter_1 _ (List.mem_of_getElem? (i := 17) rfl)) (goodIn_c (glX12_readLetter_1 _ (List.mem_of_getElem? (i := 18) rfl)) (goodIn_c (glX12_readLetter_1 _ (List.mem_of_getElem? (i := 19) rfl)) (goodIn_c (glX12_readLetter_1 _ (List.mem_of_getElem? (i := 20) rfl)) (goodIn_c (glX12_readLetter_1 _ (List.mem_of_getElem? (i := 21) rfl)) (goodIn_n))))))))))))))) (glX12_readLetter_2))
set_option maxRecDepth 20000 in
theorem gX12_readLetter_X12_readLine : GoodIn wsX12_readLetter (wsV RX12 267 RX12 yX12_readLine wsX12_readLine) := goodIn_app (goodIn_of _ (by decide +kernel)) ggX12_readLetter_X12_readLine
set_option maxRecDepth 20000 in
theorem ggX12_readLetter_X12_sign : GoodIn wsX12_readLetter wsX12_sign := goodIn_c (glX12_readLetter_1 _ (List.mem_of_getElem? (i := 1) rfl)) (goodIn_app (goodIn_c (glX12_readLetter_0 _ (List.mem_of_getElem? (i := 1) rfl)) (goodIn_c (glX12_readLetter_0 _ (List.mem_of_getElem? (i := 20) rfl)) (goodIn_c (glX12_readLetter_0 _ (List.mem_of_getElem? (i := 21) rfl)) (goodIn_n)))) (glX12_readLetter_2))
set_option maxRecDepth 20000 in
theorem gX12_readLetter_X12_sign : GoodIn wsX12_readLetter (wsV RX12 212 RX12 yX12_sign wsX12_sign) := goodIn_app (goodIn_of _ (by decide +kernel)) ggX12_readLetter_X12_sign
set_option maxRecDepth 20000 in
theorem ggX12_readLetter_X12_wrong : GoodIn wsX12_readLetter wsX12_wrong := goodIn_c (glX12_readLetter_1 _ (List.mem_of_getElem? (i := 8) rfl)) (goodIn_app (goodIn_c (glX12_readLetter_1 _ (List.mem_of_getElem? (i := 9) rfl)) (goodIn_n)) (glX12_readLetter_2))
set_option maxRecDepth 20000 in
theorem gX12_readLetter_X12_wrong : GoodIn wsX12_readLetter (wsV RX12 223 RX12 yX12_wrong wsX12_wrong) := goodIn_app (goodIn_of _ (by decide +kernel)) ggX12_readLetter_X12_wrong
set_option maxRecDepth 20000 in
theorem ggX12_readLetter_X12_passes : GoodIn wsX12_readLetter wsX12_passes := goodIn_c (glX12_readLetter_1 _ (List.mem_of_getElem? (i := 13) rfl)) (goodIn_app (goodIn_c (glX12_readLetter_0 _ (List.mem_of_getElem? (i := 1) rfl)) (goodIn_c (glX12_readLetter_1 _ (List.mem_of_getElem? (i := 14) rfl)) (goodIn_c (glX12_readLetter_1 _ (List.mem_of_getElem? (i := 15) rfl)) (goodIn_c (glX12_readLetter_1 _ (List.mem_of_getElem? (i := 16) rfl)) (goodIn_c (glX12_readLetter_0 _ (List.mem_of_getElem? (i := 11) rfl)) (goodIn_c (glX12_readLetter_1 _ (List.mem_of_getElem? (i := 17) rfl)) (goodIn_c (glX12_readLetter_0 _ (List.mem_of_getElem? (i := 21) rfl)) (goodIn_c (glX12_readLetter_0 _ (List.mem_of_getElem? (i := 22) rfl)) (goodIn_c (glX12_readLetter_0 _ (List.mem_of_getElem? (i := 23) rfl)) (goodIn_c (glX12_readLetter_1 _ (List.mem_of_getElem? (i := 0) rfl)) (goodIn_c (glX12_readLetter_1 _ (List.mem_of_getElem? (i := 1) rfl)) (goodIn_c (glX12_readLetter_0 _ (List.mem_of_getElem? (i := 20) rfl)) (goodIn_c (glX12_readLetter_1 _ (List.mem_of_getElem? (i := 18) rfl)) (goodIn_c (glX12_readLetter_1 _ (List.mem_of_getElem? (i := 19) rfl)) (goodIn_c (glX12_readLetter_1 _ (List.mem_of_getElem? (i := 20) rfl)) (goodIn_c (glX12_readLetter_1 _ (List.mem_of_getElem? (i := 21) rfl)) (goodIn_c (glX12_readLetter_1 _ (List.mem_of_getElem? (i := 5) rfl)) (goodIn_c (glX12_readLetter_1 _ (List.mem_of_getElem? (i := 6) rfl)) (goodIn_c (glX12_readLetter_1 _ (List.mem_of_getElem? (i := 7) rfl)) (goodIn_c (glX12_readLetter_1 _ (List.mem_of_getElem? (i := 8) rfl)) (goodIn_c (glX12_readLetter_1 _ (List.mem_of_getElem? (i := 9) rfl)) (goodIn_n)))))))))))))))))))))) (glX12_readLetter_2))
set_option maxRecDepth 20000 in
theorem gX12_readLetter_X12_passes : GoodIn wsX12_readLetter (wsV RX12 243 RX12 yX12_passes wsX12_passes) := goodIn_app (goodIn_of _ (by decide +kernel)) ggX12_readLetter_X12_passes
set_option maxRecDepth 20000 in
theorem ggX12_readLetter_X12_digits : GoodIn wsX12_readLetter wsX12_digits := goodIn_c (glX12_readLetter_0 _ (List.mem_of_getElem? (i := 19) rfl)) (goodIn_app (goodIn_c (glX12_readLetter_0 _ (List.mem_of_getElem? (i := 1) rfl)) (goodIn_c (glX12_readLetter_0 _ (List.mem_of_getElem? (i := 20) rfl)) (goodIn_c (glX12_readLetter_0 _ (List.mem_of_getElem? (i := 21) rfl)) (goodIn_c (glX12_readLetter_0 _ (List.mem_of_getElem? (i := 4) rfl)) (goodIn_c (glX12_readLetter_0 _ (List.mem_of_getElem? (i := 22) rfl)) (goodIn_c (glX12_readLetter_0 _ (List.mem_of_getElem? (i := 23) rfl)) (goodIn_c (glX12_readLetter_1 _ (List.mem_of_getElem? (i := 0) rfl)) (goodIn_c (glX12_readLetter_0 _ (List.mem_of_getElem? (i := 11) rfl)) (goodIn_c (glX12_readLetter_1 _ (List.mem_of_getElem? (i := 1) rfl)) (goodIn_c (glX12_readLetter_1 _ (List.mem_of_getElem? (i := 2) rfl)) (goodIn_c (glX12_readLetter_1 _ (List.mem_of_getElem? (i := 3) rfl)) (goodIn_c (glX12_readLetter_1 _ (List.mem_of_getElem? (i := 4) rfl)) (goodIn_c (glX12_readLetter_1 _ (List.mem_of_getElem? (i := 5) rfl)) (goodIn_c (glX12_readLetter_1 _ (List.mem_of_getElem? (i := 6) rfl)) (goodIn_c (glX12_readLetter_1 _ (List.mem_of_getElem? (i := 7) rfl)) (goodIn_c (glX12_readLetter_1 _ (List.mem_of_getElem? (i := 8) rfl)) (goodIn_c (glX12_readLetter_1 _ (List.mem_of_getElem? (i := 9) rfl)) (goodIn_n)))))))))))))))))) (glX12_readLetter_2))
set_option maxRecDepth 20000 in
theorem gX12_readLetter_X12_digits : GoodIn wsX12_readLetter (wsV RX12 232 RX12 yX12_digits wsX12_digits) := goodIn_app (goodIn_of _ (by decide +kernel)) ggX12_readLetter_X12_digits
theorem dX12_readLetter_0 : decode cX12_readLetter 0 = .ok (.aload_n 0, 1) := by decide +kernel
theorem dX12_readLetter_1 : decode cX12_readLetter 1 = .ok (.iconst 0, 1) := by decide +kernel
theorem dX12_readLetter_2 : decode cX12_readLetter 2 = .ok (.putfield 262, 3) := by decide +kernel
theorem dX12_readLetter_5 : decode cX12_readLetter 5 = .ok (.iconst 1, 1) := by decide +kernel
theorem dX12_readLetter_6 : decode cX12_readLetter 6 = .ok (.istore_n 1, 1) := by decide +kernel
theorem dX12_readLetter_7 : decode cX12_readLetter 7 = .ok (.iload_n 1, 1) := by decide +kernel
theorem dX12_readLetter_8 : decode cX12_readLetter 8 = .ok (.ifCond .eq 66, 3) := by decide +kernel
theorem dX12_readLetter_11 : decode cX12_readLetter 11 = .ok (.aload_n 0, 1) := by decide +kernel
theorem dX12_readLetter_12 : decode cX12_readLetter 12 = .ok (.invokevirtual 267, 3) := by decide +kernel
theorem dX12_readLetter_15 : decode cX12_readLetter 15 = .ok (.ifCond .ne 5, 3) := by decide +kernel
theorem dX12_readLetter_18 : decode cX12_readLetter 18 = .ok (.iconst 0, 1) := by decide +kernel
theorem dX12_readLetter_19 : decode cX12_readLetter 19 = .ok (.ireturn, 1) := by decide +kernel
theorem dX12_readLetter_20 : decode cX12_readLetter 20 = .ok (.aload_n 0, 1) := by decide +kernel
theorem dX12_readLetter_21 : decode cX12_readLetter 21 = .ok (.invokevirtual 212, 3) := by decide +kernel
theorem dX12_readLetter_24 : decode cX12_readLetter 24 = .ok (.bipush 44, 2) := by decide +kernel
theorem dX12_readLetter_26 : decode cX12_readLetter 26 = .ok (.if_icmp .ne 7, 3) := by decide +kernel
theorem dX12_readLetter_29 : decode cX12_readLetter 29 = .ok (.iconst 1, 1) := by decide +kernel
theorem dX12_readLetter_30 : decode cX12_readLetter 30 = .ok (.goto 4, 3) := by decide +kernel
theorem dX12_readLetter_33 : decode cX12_readLetter 33 = .ok (.iconst 0, 1) := by decide +kernel
theorem dX12_readLetter_34 : decode cX12_readLetter 34 = .ok (.istore_n 1, 1) := by decide +kernel
theorem dX12_readLetter_35 : decode cX12_readLetter 35 = .ok (.iload_n 1, 1) := by decide +kernel
theorem dX12_readLetter_36 : decode cX12_readLetter 36 = .ok (.ifCond .eq 21, 3) := by decide +kernel
theorem dX12_readLetter_39 : decode cX12_readLetter 39 = .ok (.aload_n 0, 1) := by decide +kernel
theorem dX12_readLetter_40 : decode cX12_readLetter 40 = .ok (.getfield 262, 3) := by decide +kernel
theorem dX12_readLetter_43 : decode cX12_readLetter 43 = .ok (.bipush 8, 2) := by decide +kernel
theorem dX12_readLetter_45 : decode cX12_readLetter 45 = .ok (.if_icmp .ne 12, 3) := by decide +kernel
theorem dX12_readLetter_48 : decode cX12_readLetter 48 = .ok (.aload_n 0, 1) := by decide +kernel
theorem dX12_readLetter_49 : decode cX12_readLetter 49 = .ok (.aload_n 0, 1) := by decide +kernel
theorem dX12_readLetter_50 : decode cX12_readLetter 50 = .ok (.getfield 206, 3) := by decide +kernel
theorem dX12_readLetter_53 : decode cX12_readLetter 53 = .ok (.invokevirtual 223, 3) := by decide +kernel
theorem dX12_readLetter_56 : decode cX12_readLetter 56 = .ok (.ireturn, 1) := by decide +kernel
theorem dX12_readLetter_57 : decode cX12_readLetter 57 = .ok (.iload_n 1, 1) := by decide +kernel
theorem dX12_readLetter_58 : decode cX12_readLetter 58 = .ok (.ifCond .eq (-51), 3) := by decide +kernel
theorem dX12_readLetter_61 : decode cX12_readLetter 61 = .ok (.aload_n 0, 1) := by decide +kernel
theorem dX12_readLetter_62 : decode cX12_readLetter 62 = .ok (.dup, 1) := by decide +kernel
theorem dX12_readLetter_63 : decode cX12_readLetter 63 = .ok (.getfield 206, 3) := by decide +kernel
theorem dX12_readLetter_66 : decode cX12_readLetter 66 = .ok (.iconst 1, 1) := by decide +kernel
theorem dX12_readLetter_67 : decode cX12_readLetter 67 = .ok (.iadd, 1) := by decide +kernel
theorem dX12_readLetter_68 : decode cX12_readLetter 68 = .ok (.putfield 206, 3) := by decide +kernel
theorem dX12_readLetter_71 : decode cX12_readLetter 71 = .ok (.goto (-64), 3) := by decide +kernel
theorem dX12_readLetter_74 : decode cX12_readLetter 74 = .ok (.aload_n 0, 1) := by decide +kernel
theorem dX12_readLetter_75 : decode cX12_readLetter 75 = .ok (.ldc2_w 270, 3) := by decide +kernel
theorem dX12_readLetter_78 : decode cX12_readLetter 78 = .ok (.invokevirtual 243, 3) := by decide +kernel
theorem dX12_readLetter_81 : decode cX12_readLetter 81 = .ok (.ifCond .eq 16, 3) := by decide +kernel
theorem dX12_readLetter_84 : decode cX12_readLetter 84 = .ok (.aload_n 0, 1) := by decide +kernel
theorem dX12_readLetter_85 : decode cX12_readLetter 85 = .ok (.iconst 1, 1) := by decide +kernel
theorem dX12_readLetter_86 : decode cX12_readLetter 86 = .ok (.bipush 6, 2) := by decide +kernel
theorem dX12_readLetter_88 : decode cX12_readLetter 88 = .ok (.iconst 0, 1) := by decide +kernel
theorem dX12_readLetter_89 : decode cX12_readLetter 89 = .ok (.ldc 254, 2) := by decide +kernel
theorem dX12_readLetter_91 : decode cX12_readLetter 91 = .ok (.invokevirtual 232, 3) := by decide +kernel
theorem dX12_readLetter_94 : decode cX12_readLetter 94 = .ok (.ifCond .ne 5, 3) := by decide +kernel
theorem dX12_readLetter_97 : decode cX12_readLetter 97 = .ok (.iconst 0, 1) := by decide +kernel
theorem dX12_readLetter_98 : decode cX12_readLetter 98 = .ok (.ireturn, 1) := by decide +kernel
theorem dX12_readLetter_99 : decode cX12_readLetter 99 = .ok (.aload_n 0, 1) := by decide +kernel
theorem dX12_readLetter_100 : decode cX12_readLetter 100 = .ok (.aload_n 0, 1) := by decide +kernel
theorem dX12_readLetter_101 : decode cX12_readLetter 101 = .ok (.getfield 229, 3) := by decide +kernel
theorem dX12_readLetter_104 : decode cX12_readLetter 104 = .ok (.putfield 272, 3) := by decide +kernel
theorem dX12_readLetter_107 : decode cX12_readLetter 107 = .ok (.aload_n 0, 1) := by decide +kernel
theorem dX12_readLetter_108 : decode cX12_readLetter 108 = .ok (.aload_n 0, 1) := by decide +kernel
theorem dX12_readLetter_109 : decode cX12_readLetter 109 = .ok (.getfield 229, 3) := by decide +kernel
theorem dX12_readLetter_112 : decode cX12_readLetter 112 = .ok (.putfield 275, 3) := by decide +kernel
theorem dX12_readLetter_115 : decode cX12_readLetter 115 = .ok (.aload_n 0, 1) := by decide +kernel
theorem dX12_readLetter_116 : decode cX12_readLetter 116 = .ok (.invokevirtual 212, 3) := by decide +kernel
theorem dX12_readLetter_119 : decode cX12_readLetter 119 = .ok (.iconst (-1), 1) := by decide +kernel
theorem dX12_readLetter_120 : decode cX12_readLetter 120 = .ok (.if_icmp .ne 5, 3) := by decide +kernel
theorem dX12_readLetter_123 : decode cX12_readLetter 123 = .ok (.iconst 1, 1) := by decide +kernel
theorem dX12_readLetter_124 : decode cX12_readLetter 124 = .ok (.ireturn, 1) := by decide +kernel
theorem dX12_readLetter_125 : decode cX12_readLetter 125 = .ok (.aload_n 0, 1) := by decide +kernel
theorem dX12_readLetter_126 : decode cX12_readLetter 126 = .ok (.ldc2_w 278, 3) := by decide +kernel
theorem dX12_readLetter_129 : decode cX12_readLetter 129 = .ok (.invokevirtual 243, 3) := by decide +kernel
theorem dX12_readLetter_132 : decode cX12_readLetter 132 = .ok (.ifCond .eq 16, 3) := by decide +kernel
theorem dX12_readLetter_135 : decode cX12_readLetter 135 = .ok (.aload_n 0, 1) := by decide +kernel
theorem dX12_readLetter_136 : decode cX12_readLetter 136 = .ok (.iconst 1, 1) := by decide +kernel
theorem dX12_readLetter_137 : decode cX12_readLetter 137 = .ok (.bipush 6, 2) := by decide +kernel
theorem dX12_readLetter_139 : decode cX12_readLetter 139 = .ok (.iconst 0, 1) := by decide +kernel
theorem dX12_readLetter_140 : decode cX12_readLetter 140 = .ok (.ldc 254, 2) := by decide +kernel
theorem dX12_readLetter_142 : decode cX12_readLetter 142 = .ok (.invokevirtual 232, 3) := by decide +kernel
theorem dX12_readLetter_145 : decode cX12_readLetter 145 = .ok (.ifCond .ne 5, 3) := by decide +kernel
theorem dX12_readLetter_148 : decode cX12_readLetter 148 = .ok (.iconst 0, 1) := by decide +kernel
theorem dX12_readLetter_149 : decode cX12_readLetter 149 = .ok (.ireturn, 1) := by decide +kernel
theorem dX12_readLetter_150 : decode cX12_readLetter 150 = .ok (.aload_n 0, 1) := by decide +kernel
theorem dX12_readLetter_151 : decode cX12_readLetter 151 = .ok (.aload_n 0, 1) := by decide +kernel
theorem dX12_readLetter_152 : decode cX12_readLetter 152 = .ok (.getfield 229, 3) := by decide +kernel
theorem dX12_readLetter_155 : decode cX12_readLetter 155 = .ok (.putfield 275, 3) := by decide +kernel
theorem dX12_readLetter_158 : decode cX12_readLetter 158 = .ok (.aload_n 0, 1) := by decide +kernel
theorem dX12_readLetter_159 : decode cX12_readLetter 159 = .ok (.invokevirtual 212, 3) := by decide +kernel
theorem dX12_readLetter_162 : decode cX12_readLetter 162 = .ok (.iconst (-1), 1) := by decide +kernel
theorem dX12_readLetter_163 : decode cX12_readLetter 163 = .ok (.if_icmp .eq 14, 3) := by decide +kernel
theorem dX12_readLetter_166 : decode cX12_readLetter 166 = .ok (.aload_n 0, 1) := by decide +kernel
theorem dX12_readLetter_167 : decode cX12_readLetter 167 = .ok (.aload_n 0, 1) := by decide +kernel
theorem dX12_readLetter_168 : decode cX12_readLetter 168 = .ok (.getfield 206, 3) := by decide +kernel
theorem dX12_readLetter_171 : decode cX12_readLetter 171 = .ok (.invokevirtual 223, 3) := by decide +kernel
theorem dX12_readLetter_174 : decode cX12_readLetter 174 = .ok (.ifCond .eq 7, 3) := by decide +kernel
theorem dX12_readLetter_177 : decode cX12_readLetter 177 = .ok (.iconst 1, 1) := by decide +kernel
theorem dX12_readLetter_178 : decode cX12_readLetter 178 = .ok (.goto 4, 3) := by decide +kernel
theorem dX12_readLetter_181 : decode cX12_readLetter 181 = .ok (.iconst 0, 1) := by decide +kernel
theorem dX12_readLetter_182 : decode cX12_readLetter 182 = .ok (.ireturn, 1) := by decide +kernel
theorem dX12_fault_0 : decode cX12_fault 0 = .ok (.aload_n 0, 1) := by decide +kernel
theorem dX12_fault_1 : decode cX12_fault 1 = .ok (.iconst 0, 1) := by decide +kernel
theorem dX12_fault_2 : decode cX12_fault 2 = .ok (.putfield 165, 3) := by decide +kernel
theorem dX12_fault_5 : decode cX12_fault 5 = .ok (.aload_n 0, 1) := by decide +kernel
theorem dX12_fault_6 : decode cX12_fault 6 = .ok (.getfield 61, 3) := by decide +kernel
theorem dX12_fault_9 : decode cX12_fault 9 = .ok (.ireturn, 1) := by decide +kernel
set_option maxRecDepth 20000 in
theorem glX12_priceOf_0 : GoodIn wsX12_priceOf ([.fieldLink RX12 200 "PostHouseModel" "today" "I", .methodLink RX12 189 yX12_thingOf, .instanceMethod yX12_thingOf, .selects RX12 yX12_thingOf yX12_thingOf, .initialized RX12, .code yX12_thingOf cX12_thingOf 3 (some .int), .fieldLink RX12 168 "PostHouseModel" "things" "I", .fieldLink RX12 7 "PostHouseModel" "code" "[I", .methodLink RX12 196 yX12_cost, .instanceMethod yX12_cost, .selects RX12 yX12_cost yX12_cost, .code yX12_cost cX12_cost 5 (some .int), .fieldLink RX12 25 "PostHouseModel" "prices" "[I", .fieldLink RX12 31 "PostHouseModel" "priceFrom" "[I", .fieldLink RX12 34 "PostHouseModel" "priceTo" "[I", .fieldLink RX12 28 "PostHouseModel" "priceMoney" "[I"]) := goodIn_sub (fun _ h => List.mem_cons_of_mem _ (List.mem_append_left _ (h))) (by decide +kernel)
set_option maxRecDepth 20000 in
theorem glX12_priceOf_1 : GoodIn wsX12_priceOf (wsX120) := goodIn_sub (fun _ h => List.mem_cons_of_mem _ (List.mem_append_right _ (h))) ag_wsX120
set_option maxRecDepth 20000 in
theorem ggX12_priceOf_X12_thingOf : GoodIn wsX12_priceOf wsX12_thingOf := goodIn_c (glX12_priceOf_0 _ (List.mem_of_getElem? (i := 5) rfl)) (goodIn_app (goodIn_c (glX12_priceOf_0 _ (List.mem_of_getElem? (i := 6) rfl)) (goodIn_c (glX12_priceOf_0 _ (List.mem_of_getElem? (i := 7) rfl)) (goodIn_n))) (glX12_priceOf_1))
set_option maxRecDepth 20000 in
theorem gX12_priceOf_X12_thingOf : GoodIn wsX12_priceOf (wsV RX12 189 RX12 yX12_thingOf wsX12_thingOf) := goodIn_app (goodIn_of _ (by decide +kernel)) ggX12_priceOf_X12_thingOf
set_option maxRecDepth 20000 in
theorem ggX12_priceOf_X12_cost : GoodIn wsX12_priceOf wsX12_cost := goodIn_c (glX12_priceOf_0 _ (List.mem_of_getElem? (i := 11) rfl)) (goodIn_app (goodIn_c (glX12_priceOf_0 _ (List.mem_of_getElem? (i := 12) rfl)) (goodIn_c (glX12_priceOf_0 _ (List.mem_of_getElem? (i := 13) rfl)) (goodIn_c (glX12_priceOf_0 _ (List.mem_of_getElem? (i := 14) rfl)) (goodIn_c (glX12_priceOf_0 _ (List.mem_of_getElem? (i := 15) rfl)) (goodIn_n))))) (glX12_priceOf_1))
set_option maxRecDepth 20000 in
theorem gX12_priceOf_X12_cost : GoodIn wsX12_priceOf (wsV RX12 196 RX12 yX12_cost wsX12_cost) := goodIn_app (goodIn_of _ (by decide +kernel)) ggX12_priceOf_X12_cost
theorem dX12_priceOf_0 : decode cX12_priceOf 0 = .ok (.aload_n 0, 1) := by decide +kernel
theorem dX12_priceOf_1 : decode cX12_priceOf 1 = .ok (.iload_n 1, 1) := by decide +kernel
theorem dX12_priceOf_2 : decode cX12_priceOf 2 = .ok (.invokevirtual 189, 3) := by decide +kernel
theorem dX12_priceOf_5 : decode cX12_priceOf 5 = .ok (.istore_n 2, 1) := by decide +kernel
theorem dX12_priceOf_6 : decode cX12_priceOf 6 = .ok (.iload_n 2, 1) := by decide +kernel
theorem dX12_priceOf_7 : decode cX12_priceOf 7 = .ok (.iconst (-1), 1) := by decide +kernel
theorem dX12_priceOf_8 : decode cX12_priceOf 8 = .ok (.if_icmp .ne 7, 3) := by decide +kernel
theorem dX12_priceOf_11 : decode cX12_priceOf 11 = .ok (.iconst (-1), 1) := by decide +kernel
theorem dX12_priceOf_12 : decode cX12_priceOf 12 = .ok (.goto 12, 3) := by decide +kernel
theorem dX12_priceOf_15 : decode cX12_priceOf 15 = .ok (.aload_n 0, 1) := by decide +kernel
theorem dX12_priceOf_16 : decode cX12_priceOf 16 = .ok (.iload_n 2, 1) := by decide +kernel
theorem dX12_priceOf_17 : decode cX12_priceOf 17 = .ok (.aload_n 0, 1) := by decide +kernel
theorem dX12_priceOf_18 : decode cX12_priceOf 18 = .ok (.getfield 200, 3) := by decide +kernel
theorem dX12_priceOf_21 : decode cX12_priceOf 21 = .ok (.invokevirtual 196, 3) := by decide +kernel
theorem dX12_priceOf_24 : decode cX12_priceOf 24 = .ok (.ireturn, 1) := by decide +kernel
set_option maxRecDepth 20000 in
theorem glX12_total_0 : GoodIn wsX12_total ([.fieldLink RX12 262 "PostHouseModel" "lines" "I", .fieldLink RX12 65 "PostHouseModel" "lineCode" "[I", .fieldLink RX12 68 "PostHouseModel" "lineMany" "[I", .methodLink RX12 280 yX12_priceOf, .instanceMethod yX12_priceOf, .selects RX12 yX12_priceOf yX12_priceOf, .initialized RX12, .code yX12_priceOf cX12_priceOf 3 (some .int), .fieldLink RX12 200 "PostHouseModel" "today" "I", .methodLink RX12 189 yX12_thingOf, .instanceMethod yX12_thingOf, .selects RX12 yX12_thingOf yX12_thingOf, .code yX12_thingOf cX12_thingOf 3 (some .int), .fieldLink RX12 168 "PostHouseModel" "things" "I", .fieldLink RX12 7 "PostHouseModel" "code" "[I", .methodLink RX12 196 yX12_cost, .instanceMethod yX12_cost, .selects RX12 yX12_cost yX12_cost, .code yX12_cost cX12_cost 5 (some .int), .fieldLink RX12 25 "PostHouseModel" "prices" "[I", .fieldLink RX12 31 "PostHouseModel" "priceFrom" "[I", .fieldLink RX12 34 "PostHouseModel" "priceTo" "[I", .fieldLink RX12 28 "PostHouseModel" "priceMoney" "[I"]) := goodIn_sub (fun _ h => List.mem_cons_of_mem _ (List.mem_append_left _ (h))) (by decide +kernel)
set_option maxRecDepth 20000 in
theorem glX12_total_1 : GoodIn wsX12_total (wsX120) := goodIn_sub (fun _ h => List.mem_cons_of_mem _ (List.mem_append_right _ (h))) ag_wsX120
set_option maxRecDepth 20000 in
theorem ggX12_total_X12_priceOf : GoodIn wsX12_total wsX12_priceOf := goodIn_c (glX12_total_0 _ (List.mem_of_getElem? (i := 7) rfl)) (goodIn_app (goodIn_c (glX12_total_0 _ (List.mem_of_getElem? (i := 8) rfl)) (goodIn_c (glX12_total_0 _ (List.mem_of_getElem? (i := 9) rfl)) (goodIn_c (glX12_total_0 _ (List.mem_of_getElem? (i := 10) rfl)) (goodIn_c (glX12_total_0 _ (List.mem_of_getElem? (i := 11) rfl)) (goodIn_c (glX12_total_0 _ (List.mem_of_getElem? (i := 6) rfl)) (goodIn_c (glX12_total_0 _ (List.mem_of_getElem? (i := 12) rfl)) (goodIn_c (glX12_total_0 _ (List.mem_of_getElem? (i := 13) rfl)) (goodIn_c (glX12_total_0 _ (List.mem_of_getElem? (i := 14) rfl)) (goodIn_c (glX12_total_0 _ (List.mem_of_getElem? (i := 15) rfl)) (goodIn_c (glX12_total_0 _ (List.mem_of_getElem? (i := 16) rfl)) (goodIn_c (glX12_total_0 _ (List.mem_of_getElem? (i := 17) rfl)) (goodIn_c (glX12_total_0 _ (List.mem_of_getElem? (i := 18) rfl)) (goodIn_c (glX12_total_0 _ (List.mem_of_getElem? (i := 19) rfl)) (goodIn_c (glX12_total_0 _ (List.mem_of_getElem? (i := 20) rfl)) (goodIn_c (glX12_total_0 _ (List.mem_of_getElem? (i := 21) rfl)) (goodIn_c (glX12_total_0 _ (List.mem_of_getElem? (i := 22) rfl)) (goodIn_n))))))))))))))))) (glX12_total_1))
set_option maxRecDepth 20000 in
theorem gX12_total_X12_priceOf : GoodIn wsX12_total (wsV RX12 280 RX12 yX12_priceOf wsX12_priceOf) := goodIn_app (goodIn_of _ (by decide +kernel)) ggX12_total_X12_priceOf
theorem dX12_total_0 : decode cX12_total 0 = .ok (.iconst 0, 1) := by decide +kernel
theorem dX12_total_1 : decode cX12_total 1 = .ok (.istore_n 3, 1) := by decide +kernel
theorem dX12_total_2 : decode cX12_total 2 = .ok (.iconst 0, 1) := by decide +kernel
theorem dX12_total_3 : decode cX12_total 3 = .ok (.istore 4, 2) := by decide +kernel
theorem dX12_total_5 : decode cX12_total 5 = .ok (.iload 4, 2) := by decide +kernel
theorem dX12_total_7 : decode cX12_total 7 = .ok (.aload_n 0, 1) := by decide +kernel
theorem dX12_total_8 : decode cX12_total 8 = .ok (.getfield 262, 3) := by decide +kernel
theorem dX12_total_11 : decode cX12_total 11 = .ok (.if_icmp .ge 53, 3) := by decide +kernel
theorem dX12_total_14 : decode cX12_total 14 = .ok (.aload_n 0, 1) := by decide +kernel
theorem dX12_total_15 : decode cX12_total 15 = .ok (.iload 4, 2) := by decide +kernel
theorem dX12_total_17 : decode cX12_total 17 = .ok (.iload_n 1, 1) := by decide +kernel
theorem dX12_total_18 : decode cX12_total 18 = .ok (.if_icmp .ne 7, 3) := by decide +kernel
theorem dX12_total_21 : decode cX12_total 21 = .ok (.iload_n 2, 1) := by decide +kernel
theorem dX12_total_22 : decode cX12_total 22 = .ok (.goto 10, 3) := by decide +kernel
theorem dX12_total_25 : decode cX12_total 25 = .ok (.aload_n 0, 1) := by decide +kernel
theorem dX12_total_26 : decode cX12_total 26 = .ok (.getfield 65, 3) := by decide +kernel
theorem dX12_total_29 : decode cX12_total 29 = .ok (.iload 4, 2) := by decide +kernel
theorem dX12_total_31 : decode cX12_total 31 = .ok (.iaload, 1) := by decide +kernel
theorem dX12_total_32 : decode cX12_total 32 = .ok (.invokevirtual 280, 3) := by decide +kernel
theorem dX12_total_35 : decode cX12_total 35 = .ok (.istore 5, 2) := by decide +kernel
theorem dX12_total_37 : decode cX12_total 37 = .ok (.iload 5, 2) := by decide +kernel
theorem dX12_total_39 : decode cX12_total 39 = .ok (.iconst (-1), 1) := by decide +kernel
theorem dX12_total_40 : decode cX12_total 40 = .ok (.if_icmp .ne 5, 3) := by decide +kernel
theorem dX12_total_43 : decode cX12_total 43 = .ok (.iconst (-1), 1) := by decide +kernel
theorem dX12_total_44 : decode cX12_total 44 = .ok (.ireturn, 1) := by decide +kernel
theorem dX12_total_45 : decode cX12_total 45 = .ok (.iload_n 3, 1) := by decide +kernel
theorem dX12_total_46 : decode cX12_total 46 = .ok (.iload 5, 2) := by decide +kernel
theorem dX12_total_48 : decode cX12_total 48 = .ok (.aload_n 0, 1) := by decide +kernel
theorem dX12_total_49 : decode cX12_total 49 = .ok (.getfield 68, 3) := by decide +kernel
theorem dX12_total_52 : decode cX12_total 52 = .ok (.iload 4, 2) := by decide +kernel
theorem dX12_total_54 : decode cX12_total 54 = .ok (.iaload, 1) := by decide +kernel
theorem dX12_total_55 : decode cX12_total 55 = .ok (.imul, 1) := by decide +kernel
theorem dX12_total_56 : decode cX12_total 56 = .ok (.iadd, 1) := by decide +kernel
theorem dX12_total_57 : decode cX12_total 57 = .ok (.istore_n 3, 1) := by decide +kernel
theorem dX12_total_58 : decode cX12_total 58 = .ok (.iinc 4 1, 3) := by decide +kernel
theorem dX12_total_61 : decode cX12_total 61 = .ok (.goto (-56), 3) := by decide +kernel
theorem dX12_total_64 : decode cX12_total 64 = .ok (.iload_n 3, 1) := by decide +kernel
theorem dX12_total_65 : decode cX12_total 65 = .ok (.ireturn, 1) := by decide +kernel
theorem dX12_oneDigit_0 : decode cX12_oneDigit 0 = .ok (.iconst 0, 1) := by decide +kernel
theorem dX12_oneDigit_1 : decode cX12_oneDigit 1 = .ok (.istore_n 2, 1) := by decide +kernel
theorem dX12_oneDigit_2 : decode cX12_oneDigit 2 = .ok (.iload_n 0, 1) := by decide +kernel
theorem dX12_oneDigit_3 : decode cX12_oneDigit 3 = .ok (.istore_n 3, 1) := by decide +kernel
theorem dX12_oneDigit_4 : decode cX12_oneDigit 4 = .ok (.iload_n 1, 1) := by decide +kernel
theorem dX12_oneDigit_5 : decode cX12_oneDigit 5 = .ok (.istore 4, 2) := by decide +kernel
theorem dX12_oneDigit_7 : decode cX12_oneDigit 7 = .ok (.iconst 0, 1) := by decide +kernel
theorem dX12_oneDigit_8 : decode cX12_oneDigit 8 = .ok (.istore 5, 2) := by decide +kernel
theorem dX12_oneDigit_10 : decode cX12_oneDigit 10 = .ok (.iload 5, 2) := by decide +kernel
theorem dX12_oneDigit_12 : decode cX12_oneDigit 12 = .ok (.iconst 4, 1) := by decide +kernel
theorem dX12_oneDigit_13 : decode cX12_oneDigit 13 = .ok (.if_icmp .ge 41, 3) := by decide +kernel
theorem dX12_oneDigit_16 : decode cX12_oneDigit 16 = .ok (.iload_n 2, 1) := by decide +kernel
theorem dX12_oneDigit_17 : decode cX12_oneDigit 17 = .ok (.iload_n 3, 1) := by decide +kernel
theorem dX12_oneDigit_18 : decode cX12_oneDigit 18 = .ok (.bipush 10, 2) := by decide +kernel
theorem dX12_oneDigit_20 : decode cX12_oneDigit 20 = .ok (.irem, 1) := by decide +kernel
theorem dX12_oneDigit_21 : decode cX12_oneDigit 21 = .ok (.iload 4, 2) := by decide +kernel
theorem dX12_oneDigit_23 : decode cX12_oneDigit 23 = .ok (.bipush 10, 2) := by decide +kernel
theorem dX12_oneDigit_25 : decode cX12_oneDigit 25 = .ok (.irem, 1) := by decide +kernel
theorem dX12_oneDigit_26 : decode cX12_oneDigit 26 = .ok (.if_icmp .eq 7, 3) := by decide +kernel
theorem dX12_oneDigit_29 : decode cX12_oneDigit 29 = .ok (.iconst 1, 1) := by decide +kernel
theorem dX12_oneDigit_30 : decode cX12_oneDigit 30 = .ok (.goto 4, 3) := by decide +kernel
theorem dX12_oneDigit_33 : decode cX12_oneDigit 33 = .ok (.iconst 0, 1) := by decide +kernel
theorem dX12_oneDigit_34 : decode cX12_oneDigit 34 = .ok (.iadd, 1) := by decide +kernel
theorem dX12_oneDigit_35 : decode cX12_oneDigit 35 = .ok (.istore_n 2, 1) := by decide +kernel
theorem dX12_oneDigit_36 : decode cX12_oneDigit 36 = .ok (.iload_n 3, 1) := by decide +kernel
theorem dX12_oneDigit_37 : decode cX12_oneDigit 37 = .ok (.bipush 10, 2) := by decide +kernel
theorem dX12_oneDigit_39 : decode cX12_oneDigit 39 = .ok (.idiv, 1) := by decide +kernel
theorem dX12_oneDigit_40 : decode cX12_oneDigit 40 = .ok (.istore_n 3, 1) := by decide +kernel
theorem dX12_oneDigit_41 : decode cX12_oneDigit 41 = .ok (.iload 4, 2) := by decide +kernel
theorem dX12_oneDigit_43 : decode cX12_oneDigit 43 = .ok (.bipush 10, 2) := by decide +kernel
theorem dX12_oneDigit_45 : decode cX12_oneDigit 45 = .ok (.idiv, 1) := by decide +kernel
theorem dX12_oneDigit_46 : decode cX12_oneDigit 46 = .ok (.istore 4, 2) := by decide +kernel
theorem dX12_oneDigit_48 : decode cX12_oneDigit 48 = .ok (.iinc 5 1, 3) := by decide +kernel
theorem dX12_oneDigit_51 : decode cX12_oneDigit 51 = .ok (.goto (-41), 3) := by decide +kernel
theorem dX12_oneDigit_54 : decode cX12_oneDigit 54 = .ok (.iload_n 2, 1) := by decide +kernel
theorem dX12_oneDigit_55 : decode cX12_oneDigit 55 = .ok (.iconst 1, 1) := by decide +kernel
theorem dX12_oneDigit_56 : decode cX12_oneDigit 56 = .ok (.if_icmp .ne 7, 3) := by decide +kernel
theorem dX12_oneDigit_59 : decode cX12_oneDigit 59 = .ok (.iconst 1, 1) := by decide +kernel
theorem dX12_oneDigit_60 : decode cX12_oneDigit 60 = .ok (.goto 4, 3) := by decide +kernel
theorem dX12_oneDigit_63 : decode cX12_oneDigit 63 = .ok (.iconst 0, 1) := by decide +kernel
theorem dX12_oneDigit_64 : decode cX12_oneDigit 64 = .ok (.ireturn, 1) := by decide +kernel
set_option maxRecDepth 20000 in
theorem glX12_findMendings_0 : GoodIn wsX12_findMendings (wsX12_findMendings_r1) := goodIn_sub (fun _ h => List.mem_cons_of_mem _ (List.mem_append_left _ (List.mem_append_left _ (h)))) (by decide +kernel)
set_option maxRecDepth 20000 in
theorem ggX12_findMendings_X12_oneDigit : GoodIn wsX12_findMendings wsX12_oneDigit := goodIn_c (glX12_findMendings_0 _ (List.mem_of_getElem? (i := 12) rfl)) (goodIn_n)
set_option maxRecDepth 20000 in
theorem gX12_findMendings_X12_oneDigit : GoodIn wsX12_findMendings (va_wsS RX12 286 yX12_oneDigit wsX12_oneDigit) := goodIn_app (goodIn_of _ (by decide +kernel)) ggX12_findMendings_X12_oneDigit
set_option maxRecDepth 20000 in
theorem glX12_findMendings_2 : GoodIn wsX12_findMendings (wsX120) := goodIn_sub (fun _ h => List.mem_cons_of_mem _ (List.mem_append_right _ (h))) ag_wsX120
set_option maxRecDepth 20000 in
theorem ggX12_findMendings_X12_cost : GoodIn wsX12_findMendings wsX12_cost := goodIn_c (glX12_findMendings_0 _ (List.mem_of_getElem? (i := 16) rfl)) (goodIn_app (goodIn_c (glX12_findMendings_0 _ (List.mem_of_getElem? (i := 17) rfl)) (goodIn_c (glX12_findMendings_0 _ (List.mem_of_getElem? (i := 18) rfl)) (goodIn_c (glX12_findMendings_0 _ (List.mem_of_getElem? (i := 19) rfl)) (goodIn_c (glX12_findMendings_0 _ (List.mem_of_getElem? (i := 20) rfl)) (goodIn_n))))) (glX12_findMendings_2))
set_option maxRecDepth 20000 in
theorem gX12_findMendings_X12_cost : GoodIn wsX12_findMendings (wsV RX12 196 RX12 yX12_cost wsX12_cost) := goodIn_app (goodIn_of _ (by decide +kernel)) ggX12_findMendings_X12_cost
set_option maxRecDepth 20000 in
theorem glX12_findMendings_1 : GoodIn wsX12_findMendings (wsX12_findMendings_r2) := goodIn_sub (fun _ h => List.mem_cons_of_mem _ (List.mem_append_left _ (List.mem_append_right _ (h)))) (by decide +kernel)
set_option maxRecDepth 20000 in
theorem ggX12_findMendings_X12_total : GoodIn wsX12_findMendings wsX12_total := goodIn_c (glX12_findMendings_1 _ (List.mem_of_getElem? (i := 0) rfl)) (goodIn_app (goodIn_c (glX12_findMendings_0 _ (List.mem_of_getElem? (i := 1) rfl)) (goodIn_c (glX12_findMendings_0 _ (List.mem_of_getElem? (i := 4) rfl)) (goodIn_c (glX12_findMendings_1 _ (List.mem_of_getElem? (i := 1) rfl)) (goodIn_c (glX12_findMendings_1 _ (List.mem_of_getElem? (i := 2) rfl)) (goodIn_c (glX12_findMendings_1 _ (List.mem_of_getElem? (i := 3) rfl)) (goodIn_c (glX12_findMendings_1 _ (List.mem_of_getElem? (i := 4) rfl)) (goodIn_c (glX12_findMendings_0 _ (List.mem_of_getElem? (i := 11) rfl)) (goodIn_c (glX12_findMendings_1 _ (List.mem_of_getElem? (i := 5) rfl)) (goodIn_c (glX12_findMendings_0 _ (List.mem_of_getElem? (i := 5) rfl)) (goodIn_c (glX12_findMendings_1 _ (List.mem_of_getElem? (i := 6) rfl)) (goodIn_c (glX12_findMendings_1 _ (List.mem_of_getElem? (i := 7) rfl)) (goodIn_c (glX12_findMendings_1 _ (List.mem_of_getElem? (i := 8) rfl)) (goodIn_c (glX12_findMendings_1 _ (List.mem_of_getElem? (i := 9) rfl)) (goodIn_c (glX12_findMendings_0 _ (List.mem_of_getElem? (i := 2) rfl)) (goodIn_c (glX12_findMendings_0 _ (List.mem_of_getElem? (i := 3) rfl)) (goodIn_c (glX12_findMendings_0 _ (List.mem_of_getElem? (i := 13) rfl)) (goodIn_c (glX12_findMendings_0 _ (List.mem_of_getElem? (i := 14) rfl)) (goodIn_c (glX12_findMendings_0 _ (List.mem_of_getElem? (i := 15) rfl)) (goodIn_c (glX12_findMendings_0 _ (List.mem_of_getElem? (i := 16) rfl)) (goodIn_c (glX12_findMendings_0 _ (List.mem_of_getElem? (i := 17) rfl)) (goodIn_c (glX12_findMendings_0 _ (List.mem_of_getElem? (i := 18) rfl)) (goodIn_c (glX12_findMendings_0 _ (List.mem_of_getElem? (i := 19) rfl)) (goodIn_c (glX12_findMendings_0 _ (List.mem_of_getElem? (i := 20) rfl)) (goodIn_n)))))))))))))))))))))))) (glX12_findMendings_2))
set_option maxRecDepth 20000 in
theorem gX12_findMendings_X12_total : GoodIn wsX12_findMendings (wsV RX12 290 RX12 yX12_total wsX12_total) := goodIn_app (goodIn_of _ (by decide +kernel)) ggX12_findMendings_X12_total
theorem dX12_findMendings_0 : decode cX12_findMendings 0 = .ok (.aload_n 0, 1) := by decide +kernel
theorem dX12_findMendings_1 : decode cX12_findMendings 1 = .ok (.iconst 0, 1) := by decide +kernel
theorem dX12_findMendings_2 : decode cX12_findMendings 2 = .ok (.putfield 283, 3) := by decide +kernel
theorem dX12_findMendings_5 : decode cX12_findMendings 5 = .ok (.iconst 0, 1) := by decide +kernel
theorem dX12_findMendings_6 : decode cX12_findMendings 6 = .ok (.istore_n 1, 1) := by decide +kernel
theorem dX12_findMendings_7 : decode cX12_findMendings 7 = .ok (.iload_n 1, 1) := by decide +kernel
theorem dX12_findMendings_8 : decode cX12_findMendings 8 = .ok (.aload_n 0, 1) := by decide +kernel
theorem dX12_findMendings_9 : decode cX12_findMendings 9 = .ok (.getfield 262, 3) := by decide +kernel
theorem dX12_findMendings_12 : decode cX12_findMendings 12 = .ok (.if_icmp .ge 102, 3) := by decide +kernel
theorem dX12_findMendings_15 : decode cX12_findMendings 15 = .ok (.iconst 0, 1) := by decide +kernel
theorem dX12_findMendings_16 : decode cX12_findMendings 16 = .ok (.istore_n 2, 1) := by decide +kernel
theorem dX12_findMendings_17 : decode cX12_findMendings 17 = .ok (.iload_n 2, 1) := by decide +kernel
theorem dX12_findMendings_18 : decode cX12_findMendings 18 = .ok (.aload_n 0, 1) := by decide +kernel
theorem dX12_findMendings_19 : decode cX12_findMendings 19 = .ok (.getfield 168, 3) := by decide +kernel
theorem dX12_findMendings_22 : decode cX12_findMendings 22 = .ok (.if_icmp .ge 86, 3) := by decide +kernel
theorem dX12_findMendings_25 : decode cX12_findMendings 25 = .ok (.aload_n 0, 1) := by decide +kernel
theorem dX12_findMendings_26 : decode cX12_findMendings 26 = .ok (.getfield 7, 3) := by decide +kernel
theorem dX12_findMendings_29 : decode cX12_findMendings 29 = .ok (.iload_n 2, 1) := by decide +kernel
theorem dX12_findMendings_30 : decode cX12_findMendings 30 = .ok (.iaload, 1) := by decide +kernel
theorem dX12_findMendings_31 : decode cX12_findMendings 31 = .ok (.aload_n 0, 1) := by decide +kernel
theorem dX12_findMendings_32 : decode cX12_findMendings 32 = .ok (.getfield 65, 3) := by decide +kernel
theorem dX12_findMendings_35 : decode cX12_findMendings 35 = .ok (.iload_n 1, 1) := by decide +kernel
theorem dX12_findMendings_36 : decode cX12_findMendings 36 = .ok (.iaload, 1) := by decide +kernel
theorem dX12_findMendings_37 : decode cX12_findMendings 37 = .ok (.invokestatic 286, 3) := by decide +kernel
theorem dX12_findMendings_40 : decode cX12_findMendings 40 = .ok (.ifCond .eq 62, 3) := by decide +kernel
theorem dX12_findMendings_43 : decode cX12_findMendings 43 = .ok (.aload_n 0, 1) := by decide +kernel
theorem dX12_findMendings_44 : decode cX12_findMendings 44 = .ok (.iload_n 2, 1) := by decide +kernel
theorem dX12_findMendings_45 : decode cX12_findMendings 45 = .ok (.aload_n 0, 1) := by decide +kernel
theorem dX12_findMendings_46 : decode cX12_findMendings 46 = .ok (.getfield 200, 3) := by decide +kernel
theorem dX12_findMendings_49 : decode cX12_findMendings 49 = .ok (.invokevirtual 196, 3) := by decide +kernel
theorem dX12_findMendings_52 : decode cX12_findMendings 52 = .ok (.iconst (-1), 1) := by decide +kernel
theorem dX12_findMendings_53 : decode cX12_findMendings 53 = .ok (.if_icmp .eq 49, 3) := by decide +kernel
theorem dX12_findMendings_56 : decode cX12_findMendings 56 = .ok (.aload_n 0, 1) := by decide +kernel
theorem dX12_findMendings_57 : decode cX12_findMendings 57 = .ok (.iload_n 1, 1) := by decide +kernel
theorem dX12_findMendings_58 : decode cX12_findMendings 58 = .ok (.aload_n 0, 1) := by decide +kernel
theorem dX12_findMendings_59 : decode cX12_findMendings 59 = .ok (.getfield 7, 3) := by decide +kernel
theorem dX12_findMendings_62 : decode cX12_findMendings 62 = .ok (.iload_n 2, 1) := by decide +kernel
theorem dX12_findMendings_63 : decode cX12_findMendings 63 = .ok (.iaload, 1) := by decide +kernel
theorem dX12_findMendings_64 : decode cX12_findMendings 64 = .ok (.invokevirtual 290, 3) := by decide +kernel
theorem dX12_findMendings_67 : decode cX12_findMendings 67 = .ok (.aload_n 0, 1) := by decide +kernel
theorem dX12_findMendings_68 : decode cX12_findMendings 68 = .ok (.getfield 272, 3) := by decide +kernel
theorem dX12_findMendings_71 : decode cX12_findMendings 71 = .ok (.if_icmp .eq 6, 3) := by decide +kernel
theorem dX12_findMendings_74 : decode cX12_findMendings 74 = .ok (.goto 28, 3) := by decide +kernel
theorem dX12_findMendings_77 : decode cX12_findMendings 77 = .ok (.aload_n 0, 1) := by decide +kernel
theorem dX12_findMendings_78 : decode cX12_findMendings 78 = .ok (.dup, 1) := by decide +kernel
theorem dX12_findMendings_79 : decode cX12_findMendings 79 = .ok (.getfield 283, 3) := by decide +kernel
theorem dX12_findMendings_82 : decode cX12_findMendings 82 = .ok (.iconst 1, 1) := by decide +kernel
theorem dX12_findMendings_83 : decode cX12_findMendings 83 = .ok (.iadd, 1) := by decide +kernel
theorem dX12_findMendings_84 : decode cX12_findMendings 84 = .ok (.putfield 283, 3) := by decide +kernel
theorem dX12_findMendings_87 : decode cX12_findMendings 87 = .ok (.aload_n 0, 1) := by decide +kernel
theorem dX12_findMendings_88 : decode cX12_findMendings 88 = .ok (.iload_n 1, 1) := by decide +kernel
theorem dX12_findMendings_89 : decode cX12_findMendings 89 = .ok (.putfield 293, 3) := by decide +kernel
theorem dX12_findMendings_92 : decode cX12_findMendings 92 = .ok (.aload_n 0, 1) := by decide +kernel
theorem dX12_findMendings_93 : decode cX12_findMendings 93 = .ok (.aload_n 0, 1) := by decide +kernel
theorem dX12_findMendings_94 : decode cX12_findMendings 94 = .ok (.getfield 7, 3) := by decide +kernel
theorem dX12_findMendings_97 : decode cX12_findMendings 97 = .ok (.iload_n 2, 1) := by decide +kernel
theorem dX12_findMendings_98 : decode cX12_findMendings 98 = .ok (.iaload, 1) := by decide +kernel
theorem dX12_findMendings_99 : decode cX12_findMendings 99 = .ok (.putfield 296, 3) := by decide +kernel
theorem dX12_findMendings_102 : decode cX12_findMendings 102 = .ok (.iinc 2 1, 3) := by decide +kernel
theorem dX12_findMendings_105 : decode cX12_findMendings 105 = .ok (.goto (-88), 3) := by decide +kernel
theorem dX12_findMendings_108 : decode cX12_findMendings 108 = .ok (.iinc 1 1, 3) := by decide +kernel
theorem dX12_findMendings_111 : decode cX12_findMendings 111 = .ok (.goto (-104), 3) := by decide +kernel
theorem dX12_findMendings_114 : decode cX12_findMendings 114 = .ok (.return_, 1) := by decide +kernel
theorem dX12_due_0 : decode cX12_due 0 = .ok (.iload_n 1, 1) := by decide +kernel
theorem dX12_due_1 : decode cX12_due 1 = .ok (.iload_n 1, 1) := by decide +kernel
theorem dX12_due_2 : decode cX12_due 2 = .ok (.aload_n 0, 1) := by decide +kernel
theorem dX12_due_3 : decode cX12_due 3 = .ok (.getfield 49, 3) := by decide +kernel
theorem dX12_due_6 : decode cX12_due 6 = .ok (.iconst 2, 1) := by decide +kernel
theorem dX12_due_7 : decode cX12_due 7 = .ok (.iaload, 1) := by decide +kernel
theorem dX12_due_8 : decode cX12_due 8 = .ok (.if_icmp .ge 12, 3) := by decide +kernel
theorem dX12_due_11 : decode cX12_due 11 = .ok (.aload_n 0, 1) := by decide +kernel
theorem dX12_due_12 : decode cX12_due 12 = .ok (.getfield 49, 3) := by decide +kernel
theorem dX12_due_15 : decode cX12_due 15 = .ok (.iconst 1, 1) := by decide +kernel
theorem dX12_due_16 : decode cX12_due 16 = .ok (.iaload, 1) := by decide +kernel
theorem dX12_due_17 : decode cX12_due 17 = .ok (.goto 4, 3) := by decide +kernel
theorem dX12_due_20 : decode cX12_due 20 = .ok (.iconst 0, 1) := by decide +kernel
theorem dX12_due_21 : decode cX12_due 21 = .ok (.iadd, 1) := by decide +kernel
theorem dX12_due_22 : decode cX12_due 22 = .ok (.ireturn, 1) := by decide +kernel
set_option maxRecDepth 20000 in
theorem glX12_known_0 : GoodIn wsX12_known ([.fieldLink RX12 262 "PostHouseModel" "lines" "I", .fieldLink RX12 65 "PostHouseModel" "lineCode" "[I", .methodLink RX12 280 yX12_priceOf, .instanceMethod yX12_priceOf, .selects RX12 yX12_priceOf yX12_priceOf, .initialized RX12, .code yX12_priceOf cX12_priceOf 3 (some .int), .fieldLink RX12 200 "PostHouseModel" "today" "I", .methodLink RX12 189 yX12_thingOf, .instanceMethod yX12_thingOf, .selects RX12 yX12_thingOf yX12_thingOf, .code yX12_thingOf cX12_thingOf 3 (some .int), .fieldLink RX12 168 "PostHouseModel" "things" "I", .fieldLink RX12 7 "PostHouseModel" "code" "[I", .methodLink RX12 196 yX12_cost, .instanceMethod yX12_cost, .selects RX12 yX12_cost yX12_cost, .code yX12_cost cX12_cost 5 (some .int), .fieldLink RX12 25 "PostHouseModel" "prices" "[I", .fieldLink RX12 31 "PostHouseModel" "priceFrom" "[I", .fieldLink RX12 34 "PostHouseModel" "priceTo" "[I", .fieldLink RX12 28 "PostHouseModel" "priceMoney" "[I"]) := goodIn_sub (fun _ h => List.mem_cons_of_mem _ (List.mem_append_left _ (h))) (by decide +kernel)
set_option maxRecDepth 20000 in
theorem glX12_known_1 : GoodIn wsX12_known (wsX120) := goodIn_sub (fun _ h => List.mem_cons_of_mem _ (List.mem_append_right _ (h))) ag_wsX120
set_option maxRecDepth 20000 in
theorem ggX12_known_X12_priceOf : GoodIn wsX12_known wsX12_priceOf := goodIn_c (glX12_known_0 _ (List.mem_of_getElem? (i := 6) rfl)) (goodIn_app (goodIn_c (glX12_known_0 _ (List.mem_of_getElem? (i := 7) rfl)) (goodIn_c (glX12_known_0 _ (List.mem_of_getElem? (i := 8) rfl)) (goodIn_c (glX12_known_0 _ (List.mem_of_getElem? (i := 9) rfl)) (goodIn_c (glX12_known_0 _ (List.mem_of_getElem? (i := 10) rfl)) (goodIn_c (glX12_known_0 _ (List.mem_of_getElem? (i := 5) rfl)) (goodIn_c (glX12_known_0 _ (List.mem_of_getElem? (i := 11) rfl)) (goodIn_c (glX12_known_0 _ (List.mem_of_getElem? (i := 12) rfl)) (goodIn_c (glX12_known_0 _ (List.mem_of_getElem? (i := 13) rfl)) (goodIn_c (glX12_known_0 _ (List.mem_of_getElem? (i := 14) rfl)) (goodIn_c (glX12_known_0 _ (List.mem_of_getElem? (i := 15) rfl)) (goodIn_c (glX12_known_0 _ (List.mem_of_getElem? (i := 16) rfl)) (goodIn_c (glX12_known_0 _ (List.mem_of_getElem? (i := 17) rfl)) (goodIn_c (glX12_known_0 _ (List.mem_of_getElem? (i := 18) rfl)) (goodIn_c (glX12_known_0 _ (List.mem_of_getElem? (i := 19) rfl)) (goodIn_c (glX12_known_0 _ (List.mem_of_getElem? (i := 20) rfl)) (goodIn_c (glX12_known_0 _ (List.mem_of_getElem? (i := 21) rfl)) (goodIn_n))))))))))))))))) (glX12_known_1))
set_option maxRecDepth 20000 in
theorem gX12_known_X12_priceOf : GoodIn wsX12_known (wsV RX12 280 RX12 yX12_priceOf wsX12_priceOf) := goodIn_app (goodIn_of _ (by decide +kernel)) ggX12_known_X12_priceOf
theorem dX12_known_0 : decode cX12_known 0 = .ok (.iconst 0, 1) := by decide +kernel
theorem dX12_known_1 : decode cX12_known 1 = .ok (.istore_n 1, 1) := by decide +kernel
theorem dX12_known_2 : decode cX12_known 2 = .ok (.iconst 0, 1) := by decide +kernel
theorem dX12_known_3 : decode cX12_known 3 = .ok (.istore_n 2, 1) := by decide +kernel
theorem dX12_known_4 : decode cX12_known 4 = .ok (.iload_n 2, 1) := by decide +kernel
theorem dX12_known_5 : decode cX12_known 5 = .ok (.aload_n 0, 1) := by decide +kernel
theorem dX12_known_6 : decode cX12_known 6 = .ok (.getfield 262, 3) := by decide +kernel
theorem dX12_known_9 : decode cX12_known 9 = .ok (.if_icmp .ge 31, 3) := by decide +kernel
theorem dX12_known_12 : decode cX12_known 12 = .ok (.iload_n 1, 1) := by decide +kernel
theorem dX12_known_13 : decode cX12_known 13 = .ok (.aload_n 0, 1) := by decide +kernel
theorem dX12_known_14 : decode cX12_known 14 = .ok (.aload_n 0, 1) := by decide +kernel
theorem dX12_known_15 : decode cX12_known 15 = .ok (.getfield 65, 3) := by decide +kernel
theorem dX12_known_18 : decode cX12_known 18 = .ok (.iload_n 2, 1) := by decide +kernel
theorem dX12_known_19 : decode cX12_known 19 = .ok (.iaload, 1) := by decide +kernel
theorem dX12_known_20 : decode cX12_known 20 = .ok (.invokevirtual 280, 3) := by decide +kernel
theorem dX12_known_23 : decode cX12_known 23 = .ok (.iconst (-1), 1) := by decide +kernel
theorem dX12_known_24 : decode cX12_known 24 = .ok (.if_icmp .ne 7, 3) := by decide +kernel
theorem dX12_known_27 : decode cX12_known 27 = .ok (.iconst 0, 1) := by decide +kernel
theorem dX12_known_28 : decode cX12_known 28 = .ok (.goto 4, 3) := by decide +kernel
theorem dX12_known_31 : decode cX12_known 31 = .ok (.iconst 1, 1) := by decide +kernel
theorem dX12_known_32 : decode cX12_known 32 = .ok (.iadd, 1) := by decide +kernel
theorem dX12_known_33 : decode cX12_known 33 = .ok (.istore_n 1, 1) := by decide +kernel
theorem dX12_known_34 : decode cX12_known 34 = .ok (.iinc 2 1, 3) := by decide +kernel
theorem dX12_known_37 : decode cX12_known 37 = .ok (.goto (-33), 3) := by decide +kernel
theorem dX12_known_40 : decode cX12_known 40 = .ok (.iload_n 1, 1) := by decide +kernel
theorem dX12_known_41 : decode cX12_known 41 = .ok (.ireturn, 1) := by decide +kernel
set_option maxRecDepth 20000 in
theorem glX12_letter_1 : GoodIn wsX12_letter (wsX12_letter_r2) := goodIn_sub (fun _ h => List.mem_cons_of_mem _ (List.mem_append_left _ (List.mem_append_right _ (List.mem_append_left _ (h))))) (by decide +kernel)
set_option maxRecDepth 20000 in
theorem glX12_letter_6 : GoodIn wsX12_letter (wsX120) := goodIn_sub (fun _ h => List.mem_cons_of_mem _ (List.mem_append_right _ (h))) ag_wsX120
set_option maxRecDepth 20000 in
theorem ggX12_letter_X12_beginText : GoodIn wsX12_letter wsX12_beginText := goodIn_c (glX12_letter_1 _ (List.mem_of_getElem? (i := 1) rfl)) (goodIn_app (goodIn_c (glX12_letter_1 _ (List.mem_of_getElem? (i := 2) rfl)) (goodIn_c (glX12_letter_1 _ (List.mem_of_getElem? (i := 3) rfl)) (goodIn_c (glX12_letter_1 _ (List.mem_of_getElem? (i := 4) rfl)) (goodIn_c (glX12_letter_1 _ (List.mem_of_getElem? (i := 5) rfl)) (goodIn_n))))) (glX12_letter_6))
set_option maxRecDepth 20000 in
theorem gX12_letter_X12_beginText : GoodIn wsX12_letter (wsV RX12 255 RX12 yX12_beginText wsX12_beginText) := goodIn_app (goodIn_of _ (by decide +kernel)) ggX12_letter_X12_beginText
set_option maxRecDepth 20000 in
theorem glX12_letter_2 : GoodIn wsX12_letter (wsX12_letter_r3) := goodIn_sub (fun _ h => List.mem_cons_of_mem _ (List.mem_append_left _ (List.mem_append_right _ (List.mem_append_right _ (List.mem_append_left _ (h)))))) (by decide +kernel)
set_option maxRecDepth 20000 in
theorem glX12_letter_0 : GoodIn wsX12_letter (wsX12_letter_r1) := goodIn_sub (fun _ h => List.mem_cons_of_mem _ (List.mem_append_left _ (List.mem_append_left _ (h)))) (by decide +kernel)
set_option maxRecDepth 20000 in
theorem ggX12_letter_X12_readLetter : GoodIn wsX12_letter wsX12_readLetter := goodIn_c (glX12_letter_1 _ (List.mem_of_getElem? (i := 9) rfl)) (goodIn_app (goodIn_app (goodIn_c (glX12_letter_0 _ (List.mem_of_getElem? (i := 14) rfl)) (goodIn_c (glX12_letter_1 _ (List.mem_of_getElem? (i := 4) rfl)) (goodIn_c (glX12_letter_1 _ (List.mem_of_getElem? (i := 10) rfl)) (goodIn_c (glX12_letter_1 _ (List.mem_of_getElem? (i := 11) rfl)) (goodIn_c (glX12_letter_1 _ (List.mem_of_getElem? (i := 12) rfl)) (goodIn_c (glX12_letter_0 _ (List.mem_of_getElem? (i := 1) rfl)) (goodIn_c (glX12_letter_0 _ (List.mem_of_getElem? (i := 6) rfl)) (goodIn_c (glX12_letter_1 _ (List.mem_of_getElem? (i := 13) rfl)) (goodIn_c (glX12_letter_1 _ (List.mem_of_getElem? (i := 14) rfl)) (goodIn_c (glX12_letter_1 _ (List.mem_of_getElem? (i := 15) rfl)) (goodIn_c (glX12_letter_1 _ (List.mem_of_getElem? (i := 16) rfl)) (goodIn_c (glX12_letter_1 _ (List.mem_of_getElem? (i := 0) rfl)) (goodIn_c (glX12_letter_1 _ (List.mem_of_getElem? (i := 17) rfl)) (goodIn_c (glX12_letter_0 _ (List.mem_of_getElem? (i := 3) rfl)) (goodIn_c (glX12_letter_1 _ (List.mem_of_getElem? (i := 18) rfl)) (goodIn_c (glX12_letter_0 _ (List.mem_of_getElem? (i := 20) rfl)) (goodIn_c (glX12_letter_1 _ (List.mem_of_getElem? (i := 19) rfl)) (goodIn_c (glX12_letter_1 _ (List.mem_of_getElem? (i := 20) rfl)) (goodIn_c (glX12_letter_1 _ (List.mem_of_getElem? (i := 21) rfl)) (goodIn_c (glX12_letter_1 _ (List.mem_of_getElem? (i := 22) rfl)) (goodIn_c (glX12_letter_1 _ (List.mem_of_getElem? (i := 3) rfl)) (goodIn_c (glX12_letter_1 _ (List.mem_of_getElem? (i := 23) rfl)) (goodIn_c (glX12_letter_2 _ (List.mem_of_getElem? (i := 0) rfl)) (goodIn_c (glX12_letter_2 _ (List.mem_of_getElem? (i := 1) rfl)) (goodIn_n))))))))))))))))))))))))) (goodIn_c (glX12_letter_2 _ (List.mem_of_getElem? (i := 2) rfl)) (goodIn_c (glX12_letter_2 _ (List.mem_of_getElem? (i := 3) rfl)) (goodIn_c (glX12_letter_2 _ (List.mem_of_getElem? (i := 4) rfl)) (goodIn_c (glX12_letter_2 _ (List.mem_of_getElem? (i := 5) rfl)) (goodIn_c (glX12_letter_2 _ (List.mem_of_getElem? (i := 6) rfl)) (goodIn_c (glX12_letter_2 _ (List.mem_of_getElem? (i := 7) rfl)) (goodIn_c (glX12_letter_2 _ (List.mem_of_getElem? (i := 8) rfl)) (goodIn_c (glX12_letter_2 _ (List.mem_of_getElem? (i := 9) rfl)) (goodIn_c (glX12_letter_2 _ (List.mem_of_getElem? (i := 10) rfl)) (goodIn_c (glX12_letter_1 _ (List.mem_of_getElem? (i := 5) rfl)) (goodIn_c (glX12_letter_2 _ (List.mem_of_getElem? (i := 11) rfl)) (goodIn_c (glX12_letter_2 _ (List.mem_of_getElem? (i := 12) rfl)) (goodIn_c (glX12_letter_2 _ (List.mem_of_getElem? (i := 13) rfl)) (goodIn_c (glX12_letter_2 _ (List.mem_of_getElem? (i := 14) rfl)) (goodIn_c (glX12_letter_2 _ (List.mem_of_getElem? (i := 15) rfl)) (goodIn_c (glX12_letter_2 _ (List.mem_of_getElem? (i := 16) rfl)) (goodIn_c (glX12_letter_2 _ (List.mem_of_getElem? (i := 17) rfl)) (goodIn_c (glX12_letter_2 _ (List.mem_of_getElem? (i := 18) rfl)) (goodIn_c (glX12_letter_2 _ (List.mem_of_getElem? (i := 19) rfl)) (goodIn_c (glX12_letter_2 _ (List.mem_of_getElem? (i := 20) rfl)) (goodIn_c (glX12_letter_2 _ (List.mem_of_getElem? (i := 21) rfl)) (goodIn_c (glX12_letter_2 _ (List.mem_of_getElem? (i := 22) rfl)) (goodIn_n)))))))))))))))))))))))) (glX12_letter_6))
set_option maxRecDepth 20000 in
theorem gX12_letter_X12_readLetter : GoodIn wsX12_letter (wsV RX12 299 RX12 yX12_readLetter wsX12_readLetter) := goodIn_app (goodIn_of _ (by decide +kernel)) ggX12_letter_X12_readLetter
set_option maxRecDepth 20000 in
theorem glX12_letter_3 : GoodIn wsX12_letter (wsX12_letter_r4) := goodIn_sub (fun _ h => List.mem_cons_of_mem _ (List.mem_append_left _ (List.mem_append_right _ (List.mem_append_right _ (List.mem_append_right _ (List.mem_append_left _ (h))))))) (by decide +kernel)
set_option maxRecDepth 20000 in
theorem ggX12_letter_X12_total : GoodIn wsX12_letter wsX12_total := goodIn_c (glX12_letter_3 _ (List.mem_of_getElem? (i := 2) rfl)) (goodIn_app (goodIn_c (glX12_letter_0 _ (List.mem_of_getElem? (i := 14) rfl)) (goodIn_c (glX12_letter_0 _ (List.mem_of_getElem? (i := 3) rfl)) (goodIn_c (glX12_letter_0 _ (List.mem_of_getElem? (i := 20) rfl)) (goodIn_c (glX12_letter_3 _ (List.mem_of_getElem? (i := 3) rfl)) (goodIn_c (glX12_letter_3 _ (List.mem_of_getElem? (i := 4) rfl)) (goodIn_c (glX12_letter_3 _ (List.mem_of_getElem? (i := 5) rfl)) (goodIn_c (glX12_letter_1 _ (List.mem_of_getElem? (i := 0) rfl)) (goodIn_c (glX12_letter_3 _ (List.mem_of_getElem? (i := 6) rfl)) (goodIn_c (glX12_letter_3 _ (List.mem_of_getElem? (i := 7) rfl)) (goodIn_c (glX12_letter_3 _ (List.mem_of_getElem? (i := 8) rfl)) (goodIn_c (glX12_letter_3 _ (List.mem_of_getElem? (i := 9) rfl)) (goodIn_c (glX12_letter_3 _ (List.mem_of_getElem? (i := 10) rfl)) (goodIn_c (glX12_letter_3 _ (List.mem_of_getElem? (i := 11) rfl)) (goodIn_c (glX12_letter_3 _ (List.mem_of_getElem? (i := 12) rfl)) (goodIn_c (glX12_letter_3 _ (List.mem_of_getElem? (i := 13) rfl)) (goodIn_c (glX12_letter_3 _ (List.mem_of_getElem? (i := 14) rfl)) (goodIn_c (glX12_letter_3 _ (List.mem_of_getElem? (i := 15) rfl)) (goodIn_c (glX12_letter_3 _ (List.mem_of_getElem? (i := 16) rfl)) (goodIn_c (glX12_letter_3 _ (List.mem_of_getElem? (i := 17) rfl)) (goodIn_c (glX12_letter_3 _ (List.mem_of_getElem? (i := 18) rfl)) (goodIn_c (glX12_letter_3 _ (List.mem_of_getElem? (i := 19) rfl)) (goodIn_c (glX12_letter_3 _ (List.mem_of_getElem? (i := 20) rfl)) (goodIn_c (glX12_letter_3 _ (List.mem_of_getElem? (i := 21) rfl)) (goodIn_n)))))))))))))))))))))))) (glX12_letter_6))
set_option maxRecDepth 20000 in
theorem gX12_letter_X12_total : GoodIn wsX12_letter (wsV RX12 290 RX12 yX12_total wsX12_total) := goodIn_app (goodIn_of _ (by decide +kernel)) ggX12_letter_X12_total
set_option maxRecDepth 20000 in
theorem glX12_letter_4 : GoodIn wsX12_letter (wsX12_letter_r5) := goodIn_sub (fun _ h => List.mem_cons_of_mem _ (List.mem_append_left _ (List.mem_append_right _ (List.mem_append_right _ (List.mem_append_right _ (List.mem_append_right _ (List.mem_append_left _ (h)))))))) (by decide +kernel)
set_option maxRecDepth 20000 in
theorem ggX12_letter_X12_findMendings : GoodIn wsX12_letter wsX12_findMendings := goodIn_c (glX12_letter_4 _ (List.mem_of_getElem? (i := 1) rfl)) (goodIn_app (goodIn_app (goodIn_c (glX12_letter_0 _ (List.mem_of_getElem? (i := 2) rfl)) (goodIn_c (glX12_letter_0 _ (List.mem_of_getElem? (i := 14) rfl)) (goodIn_c (glX12_letter_3 _ (List.mem_of_getElem? (i := 12) rfl)) (goodIn_c (glX12_letter_3 _ (List.mem_of_getElem? (i := 13) rfl)) (goodIn_c (glX12_letter_0 _ (List.mem_of_getElem? (i := 3) rfl)) (goodIn_c (glX12_letter_3 _ (List.mem_of_getElem? (i := 7) rfl)) (goodIn_c (glX12_letter_0 _ (List.mem_of_getElem? (i := 1) rfl)) (goodIn_c (glX12_letter_0 _ (List.mem_of_getElem? (i := 4) rfl)) (goodIn_c (glX12_letter_0 _ (List.mem_of_getElem? (i := 5) rfl)) (goodIn_c (glX12_letter_4 _ (List.mem_of_getElem? (i := 2) rfl)) (goodIn_c (glX12_letter_4 _ (List.mem_of_getElem? (i := 3) rfl)) (goodIn_c (glX12_letter_1 _ (List.mem_of_getElem? (i := 0) rfl)) (goodIn_c (glX12_letter_4 _ (List.mem_of_getElem? (i := 4) rfl)) (goodIn_c (glX12_letter_3 _ (List.mem_of_getElem? (i := 14) rfl)) (goodIn_c (glX12_letter_3 _ (List.mem_of_getElem? (i := 15) rfl)) (goodIn_c (glX12_letter_3 _ (List.mem_of_getElem? (i := 16) rfl)) (goodIn_c (glX12_letter_3 _ (List.mem_of_getElem? (i := 17) rfl)) (goodIn_c (glX12_letter_3 _ (List.mem_of_getElem? (i := 18) rfl)) (goodIn_c (glX12_letter_3 _ (List.mem_of_getElem? (i := 19) rfl)) (goodIn_c (glX12_letter_3 _ (List.mem_of_getElem? (i := 20) rfl)) (goodIn_c (glX12_letter_3 _ (List.mem_of_getElem? (i := 21) rfl)) (goodIn_c (glX12_letter_2 _ (List.mem_of_getElem? (i := 23) rfl)) (goodIn_c (glX12_letter_3 _ (List.mem_of_getElem? (i := 0) rfl)) (goodIn_c (glX12_letter_3 _ (List.mem_of_getElem? (i := 1) rfl)) (goodIn_n))))))))))))))))))))))))) (goodIn_c (glX12_letter_3 _ (List.mem_of_getElem? (i := 2) rfl)) (goodIn_c (glX12_letter_0 _ (List.mem_of_getElem? (i := 20) rfl)) (goodIn_c (glX12_letter_3 _ (List.mem_of_getElem? (i := 3) rfl)) (goodIn_c (glX12_letter_3 _ (List.mem_of_getElem? (i := 4) rfl)) (goodIn_c (glX12_letter_3 _ (List.mem_of_getElem? (i := 5) rfl)) (goodIn_c (glX12_letter_3 _ (List.mem_of_getElem? (i := 6) rfl)) (goodIn_c (glX12_letter_3 _ (List.mem_of_getElem? (i := 8) rfl)) (goodIn_c (glX12_letter_3 _ (List.mem_of_getElem? (i := 9) rfl)) (goodIn_c (glX12_letter_3 _ (List.mem_of_getElem? (i := 10) rfl)) (goodIn_c (glX12_letter_3 _ (List.mem_of_getElem? (i := 11) rfl)) (goodIn_n)))))))))))) (glX12_letter_6))
set_option maxRecDepth 20000 in
theorem gX12_letter_X12_findMendings : GoodIn wsX12_letter (wsV RX12 302 RX12 yX12_findMendings wsX12_findMendings) := goodIn_app (goodIn_of _ (by decide +kernel)) ggX12_letter_X12_findMendings
set_option maxRecDepth 20000 in
theorem ggX12_letter_X12_known : GoodIn wsX12_letter wsX12_known := goodIn_c (glX12_letter_4 _ (List.mem_of_getElem? (i := 8) rfl)) (goodIn_app (goodIn_c (glX12_letter_0 _ (List.mem_of_getElem? (i := 14) rfl)) (goodIn_c (glX12_letter_0 _ (List.mem_of_getElem? (i := 3) rfl)) (goodIn_c (glX12_letter_3 _ (List.mem_of_getElem? (i := 3) rfl)) (goodIn_c (glX12_letter_3 _ (List.mem_of_getElem? (i := 4) rfl)) (goodIn_c (glX12_letter_3 _ (List.mem_of_getElem? (i := 5) rfl)) (goodIn_c (glX12_letter_1 _ (List.mem_of_getElem? (i := 0) rfl)) (goodIn_c (glX12_letter_3 _ (List.mem_of_getElem? (i := 6) rfl)) (goodIn_c (glX12_letter_3 _ (List.mem_of_getElem? (i := 7) rfl)) (goodIn_c (glX12_letter_3 _ (List.mem_of_getElem? (i := 8) rfl)) (goodIn_c (glX12_letter_3 _ (List.mem_of_getElem? (i := 9) rfl)) (goodIn_c (glX12_letter_3 _ (List.mem_of_getElem? (i := 10) rfl)) (goodIn_c (glX12_letter_3 _ (List.mem_of_getElem? (i := 11) rfl)) (goodIn_c (glX12_letter_3 _ (List.mem_of_getElem? (i := 12) rfl)) (goodIn_c (glX12_letter_3 _ (List.mem_of_getElem? (i := 13) rfl)) (goodIn_c (glX12_letter_3 _ (List.mem_of_getElem? (i := 14) rfl)) (goodIn_c (glX12_letter_3 _ (List.mem_of_getElem? (i := 15) rfl)) (goodIn_c (glX12_letter_3 _ (List.mem_of_getElem? (i := 16) rfl)) (goodIn_c (glX12_letter_3 _ (List.mem_of_getElem? (i := 17) rfl)) (goodIn_c (glX12_letter_3 _ (List.mem_of_getElem? (i := 18) rfl)) (goodIn_c (glX12_letter_3 _ (List.mem_of_getElem? (i := 19) rfl)) (goodIn_c (glX12_letter_3 _ (List.mem_of_getElem? (i := 20) rfl)) (goodIn_c (glX12_letter_3 _ (List.mem_of_getElem? (i := 21) rfl)) (goodIn_n))))))))))))))))))))))) (glX12_letter_6))
set_option maxRecDepth 20000 in
theorem gX12_letter_X12_known : GoodIn wsX12_letter (wsV RX12 305 RX12 yX12_known wsX12_known) := goodIn_app (goodIn_of _ (by decide +kernel)) ggX12_letter_X12_known
set_option maxRecDepth 20000 in
theorem ggX12_letter_X12_due : GoodIn wsX12_letter wsX12_due := goodIn_c (glX12_letter_4 _ (List.mem_of_getElem? (i := 12) rfl)) (goodIn_app (goodIn_c (glX12_letter_4 _ (List.mem_of_getElem? (i := 13) rfl)) (goodIn_n)) (glX12_letter_6))
set_option maxRecDepth 20000 in
theorem gX12_letter_X12_due : GoodIn wsX12_letter (wsV RX12 308 RX12 yX12_due wsX12_due) := goodIn_app (goodIn_of _ (by decide +kernel)) ggX12_letter_X12_due
set_option maxRecDepth 20000 in
theorem glX12_letter_5 : GoodIn wsX12_letter (wsX12_letter_r6) := goodIn_sub (fun _ h => List.mem_cons_of_mem _ (List.mem_append_left _ (List.mem_append_right _ (List.mem_append_right _ (List.mem_append_right _ (List.mem_append_right _ (List.mem_append_right _ (h)))))))) (by decide +kernel)
set_option maxRecDepth 20000 in
theorem ggX12_letter_X12_makeOrder : GoodIn wsX12_letter wsX12_makeOrder := goodIn_c (glX12_letter_4 _ (List.mem_of_getElem? (i := 17) rfl)) (goodIn_app (goodIn_app (goodIn_c (glX12_letter_0 _ (List.mem_of_getElem? (i := 7) rfl)) (goodIn_c (glX12_letter_4 _ (List.mem_of_getElem? (i := 18) rfl)) (goodIn_c (glX12_letter_0 _ (List.mem_of_getElem? (i := 14) rfl)) (goodIn_c (glX12_letter_0 _ (List.mem_of_getElem? (i := 3) rfl)) (goodIn_c (glX12_letter_4 _ (List.mem_of_getElem? (i := 19) rfl)) (goodIn_c (glX12_letter_4 _ (List.mem_of_getElem? (i := 20) rfl)) (goodIn_c (glX12_letter_0 _ (List.mem_of_getElem? (i := 20) rfl)) (goodIn_c (glX12_letter_4 _ (List.mem_of_getElem? (i := 21) rfl)) (goodIn_c (glX12_letter_4 _ (List.mem_of_getElem? (i := 22) rfl)) (goodIn_c (glX12_letter_4 _ (List.mem_of_getElem? (i := 23) rfl)) (goodIn_c (glX12_letter_5 _ (List.mem_of_getElem? (i := 0) rfl)) (goodIn_c (glX12_letter_5 _ (List.mem_of_getElem? (i := 1) rfl)) (goodIn_c (glX12_letter_5 _ (List.mem_of_getElem? (i := 2) rfl)) (goodIn_c (glX12_letter_5 _ (List.mem_of_getElem? (i := 3) rfl)) (goodIn_c (glX12_letter_5 _ (List.mem_of_getElem? (i := 4) rfl)) (goodIn_c (glX12_letter_5 _ (List.mem_of_getElem? (i := 5) rfl)) (goodIn_c (glX12_letter_3 _ (List.mem_of_getElem? (i := 7) rfl)) (goodIn_c (glX12_letter_5 _ (List.mem_of_getElem? (i := 6) rfl)) (goodIn_c (glX12_letter_0 _ (List.mem_of_getElem? (i := 6) rfl)) (goodIn_c (glX12_letter_5 _ (List.mem_of_getElem? (i := 7) rfl)) (goodIn_c (glX12_letter_5 _ (List.mem_of_getElem? (i := 8) rfl)) (goodIn_c (glX12_letter_3 _ (List.mem_of_getElem? (i := 3) rfl)) (goodIn_c (glX12_letter_3 _ (List.mem_of_getElem? (i := 4) rfl)) (goodIn_c (glX12_letter_3 _ (List.mem_of_getElem? (i := 5) rfl)) (goodIn_n))))))))))))))))))))))))) (goodIn_c (glX12_letter_1 _ (List.mem_of_getElem? (i := 0) rfl)) (goodIn_c (glX12_letter_3 _ (List.mem_of_getElem? (i := 6) rfl)) (goodIn_c (glX12_letter_3 _ (List.mem_of_getElem? (i := 8) rfl)) (goodIn_c (glX12_letter_3 _ (List.mem_of_getElem? (i := 9) rfl)) (goodIn_c (glX12_letter_3 _ (List.mem_of_getElem? (i := 10) rfl)) (goodIn_c (glX12_letter_3 _ (List.mem_of_getElem? (i := 11) rfl)) (goodIn_c (glX12_letter_3 _ (List.mem_of_getElem? (i := 12) rfl)) (goodIn_c (glX12_letter_3 _ (List.mem_of_getElem? (i := 13) rfl)) (goodIn_c (glX12_letter_3 _ (List.mem_of_getElem? (i := 14) rfl)) (goodIn_c (glX12_letter_3 _ (List.mem_of_getElem? (i := 15) rfl)) (goodIn_c (glX12_letter_3 _ (List.mem_of_getElem? (i := 16) rfl)) (goodIn_c (glX12_letter_3 _ (List.mem_of_getElem? (i := 17) rfl)) (goodIn_c (glX12_letter_3 _ (List.mem_of_getElem? (i := 18) rfl)) (goodIn_c (glX12_letter_3 _ (List.mem_of_getElem? (i := 19) rfl)) (goodIn_c (glX12_letter_3 _ (List.mem_of_getElem? (i := 20) rfl)) (goodIn_c (glX12_letter_3 _ (List.mem_of_getElem? (i := 21) rfl)) (goodIn_c (glX12_letter_4 _ (List.mem_of_getElem? (i := 9) rfl)) (goodIn_c (glX12_letter_4 _ (List.mem_of_getElem? (i := 10) rfl)) (goodIn_c (glX12_letter_4 _ (List.mem_of_getElem? (i := 11) rfl)) (goodIn_c (glX12_letter_4 _ (List.mem_of_getElem? (i := 12) rfl)) (goodIn_c (glX12_letter_4 _ (List.mem_of_getElem? (i := 13) rfl)) (goodIn_n))))))))))))))))))))))) (glX12_letter_6))
set_option maxRecDepth 20000 in
theorem gX12_letter_X12_makeOrder : GoodIn wsX12_letter (wsV RX12 317 RX12 yX12_makeOrder wsX12_makeOrder) := goodIn_app (goodIn_of _ (by decide +kernel)) ggX12_letter_X12_makeOrder
set_option maxRecDepth 20000 in
theorem ggX12_letter_X12_grow : GoodIn wsX12_letter wsX12_grow := goodIn_c (glX12_letter_5 _ (List.mem_of_getElem? (i := 12) rfl)) (goodIn_app (goodIn_c (glX12_letter_0 _ (List.mem_of_getElem? (i := 10) rfl)) (goodIn_c (glX12_letter_5 _ (List.mem_of_getElem? (i := 13) rfl)) (goodIn_c (glX12_letter_0 _ (List.mem_of_getElem? (i := 12) rfl)) (goodIn_c (glX12_letter_0 _ (List.mem_of_getElem? (i := 13) rfl)) (goodIn_c (glX12_letter_0 _ (List.mem_of_getElem? (i := 11) rfl)) (goodIn_c (glX12_letter_0 _ (List.mem_of_getElem? (i := 15) rfl)) (goodIn_c (glX12_letter_0 _ (List.mem_of_getElem? (i := 16) rfl)) (goodIn_c (glX12_letter_0 _ (List.mem_of_getElem? (i := 17) rfl)) (goodIn_c (glX12_letter_0 _ (List.mem_of_getElem? (i := 18) rfl)) (goodIn_c (glX12_letter_0 _ (List.mem_of_getElem? (i := 19) rfl)) (goodIn_c (glX12_letter_5 _ (List.mem_of_getElem? (i := 14) rfl)) (goodIn_c (glX12_letter_5 _ (List.mem_of_getElem? (i := 15) rfl)) (goodIn_c (glX12_letter_1 _ (List.mem_of_getElem? (i := 0) rfl)) (goodIn_c (glX12_letter_5 _ (List.mem_of_getElem? (i := 16) rfl)) (goodIn_c (glX12_letter_5 _ (List.mem_of_getElem? (i := 17) rfl)) (goodIn_n)))))))))))))))) (glX12_letter_6))
set_option maxRecDepth 20000 in
theorem gX12_letter_X12_grow : GoodIn wsX12_letter (wsV RX12 323 RX12 yX12_grow wsX12_grow) := goodIn_app (goodIn_of _ (by decide +kernel)) ggX12_letter_X12_grow
theorem dX12_letter_0 : decode cX12_letter 0 = .ok (.aload_n 0, 1) := by decide +kernel
theorem dX12_letter_1 : decode cX12_letter 1 = .ok (.invokevirtual 255, 3) := by decide +kernel
theorem dX12_letter_4 : decode cX12_letter 4 = .ok (.aload_n 0, 1) := by decide +kernel
theorem dX12_letter_5 : decode cX12_letter 5 = .ok (.iconst 0, 1) := by decide +kernel
theorem dX12_letter_6 : decode cX12_letter 6 = .ok (.putfield 165, 3) := by decide +kernel
theorem dX12_letter_9 : decode cX12_letter 9 = .ok (.aload_n 0, 1) := by decide +kernel
theorem dX12_letter_10 : decode cX12_letter 10 = .ok (.invokevirtual 299, 3) := by decide +kernel
theorem dX12_letter_13 : decode cX12_letter 13 = .ok (.ifCond .ne 10, 3) := by decide +kernel
theorem dX12_letter_16 : decode cX12_letter 16 = .ok (.aload_n 0, 1) := by decide +kernel
theorem dX12_letter_17 : decode cX12_letter 17 = .ok (.iconst 1, 1) := by decide +kernel
theorem dX12_letter_18 : decode cX12_letter 18 = .ok (.putfield 165, 3) := by decide +kernel
theorem dX12_letter_21 : decode cX12_letter 21 = .ok (.iconst 0, 1) := by decide +kernel
theorem dX12_letter_22 : decode cX12_letter 22 = .ok (.ireturn, 1) := by decide +kernel
theorem dX12_letter_23 : decode cX12_letter 23 = .ok (.aload_n 0, 1) := by decide +kernel
theorem dX12_letter_24 : decode cX12_letter 24 = .ok (.iconst (-1), 1) := by decide +kernel
theorem dX12_letter_25 : decode cX12_letter 25 = .ok (.iconst 0, 1) := by decide +kernel
theorem dX12_letter_26 : decode cX12_letter 26 = .ok (.invokevirtual 290, 3) := by decide +kernel
theorem dX12_letter_29 : decode cX12_letter 29 = .ok (.aload_n 0, 1) := by decide +kernel
theorem dX12_letter_30 : decode cX12_letter 30 = .ok (.getfield 272, 3) := by decide +kernel
theorem dX12_letter_33 : decode cX12_letter 33 = .ok (.if_icmp .ne 7, 3) := by decide +kernel
theorem dX12_letter_36 : decode cX12_letter 36 = .ok (.iconst 1, 1) := by decide +kernel
theorem dX12_letter_37 : decode cX12_letter 37 = .ok (.goto 4, 3) := by decide +kernel
theorem dX12_letter_40 : decode cX12_letter 40 = .ok (.iconst 0, 1) := by decide +kernel
theorem dX12_letter_41 : decode cX12_letter 41 = .ok (.istore_n 1, 1) := by decide +kernel
theorem dX12_letter_42 : decode cX12_letter 42 = .ok (.aload_n 0, 1) := by decide +kernel
theorem dX12_letter_43 : decode cX12_letter 43 = .ok (.iconst 0, 1) := by decide +kernel
theorem dX12_letter_44 : decode cX12_letter 44 = .ok (.putfield 283, 3) := by decide +kernel
theorem dX12_letter_47 : decode cX12_letter 47 = .ok (.iload_n 1, 1) := by decide +kernel
theorem dX12_letter_48 : decode cX12_letter 48 = .ok (.ifCond .ne 7, 3) := by decide +kernel
theorem dX12_letter_51 : decode cX12_letter 51 = .ok (.aload_n 0, 1) := by decide +kernel
theorem dX12_letter_52 : decode cX12_letter 52 = .ok (.invokevirtual 302, 3) := by decide +kernel
theorem dX12_letter_55 : decode cX12_letter 55 = .ok (.iload_n 1, 1) := by decide +kernel
theorem dX12_letter_56 : decode cX12_letter 56 = .ok (.ifCond .ne 15, 3) := by decide +kernel
theorem dX12_letter_59 : decode cX12_letter 59 = .ok (.aload_n 0, 1) := by decide +kernel
theorem dX12_letter_60 : decode cX12_letter 60 = .ok (.getfield 283, 3) := by decide +kernel
theorem dX12_letter_63 : decode cX12_letter 63 = .ok (.iconst 1, 1) := by decide +kernel
theorem dX12_letter_64 : decode cX12_letter 64 = .ok (.if_icmp .ne 7, 3) := by decide +kernel
theorem dX12_letter_67 : decode cX12_letter 67 = .ok (.iconst 1, 1) := by decide +kernel
theorem dX12_letter_68 : decode cX12_letter 68 = .ok (.goto 4, 3) := by decide +kernel
theorem dX12_letter_71 : decode cX12_letter 71 = .ok (.iconst 0, 1) := by decide +kernel
theorem dX12_letter_72 : decode cX12_letter 72 = .ok (.istore_n 2, 1) := by decide +kernel
theorem dX12_letter_73 : decode cX12_letter 73 = .ok (.iload_n 2, 1) := by decide +kernel
theorem dX12_letter_74 : decode cX12_letter 74 = .ok (.ifCond .eq 16, 3) := by decide +kernel
theorem dX12_letter_77 : decode cX12_letter 77 = .ok (.aload_n 0, 1) := by decide +kernel
theorem dX12_letter_78 : decode cX12_letter 78 = .ok (.getfield 65, 3) := by decide +kernel
theorem dX12_letter_81 : decode cX12_letter 81 = .ok (.aload_n 0, 1) := by decide +kernel
theorem dX12_letter_82 : decode cX12_letter 82 = .ok (.getfield 293, 3) := by decide +kernel
theorem dX12_letter_85 : decode cX12_letter 85 = .ok (.aload_n 0, 1) := by decide +kernel
theorem dX12_letter_86 : decode cX12_letter 86 = .ok (.getfield 296, 3) := by decide +kernel
theorem dX12_letter_89 : decode cX12_letter 89 = .ok (.iastore, 1) := by decide +kernel
theorem dX12_letter_90 : decode cX12_letter 90 = .ok (.aload_n 0, 1) := by decide +kernel
theorem dX12_letter_91 : decode cX12_letter 91 = .ok (.invokevirtual 305, 3) := by decide +kernel
theorem dX12_letter_94 : decode cX12_letter 94 = .ok (.istore_n 3, 1) := by decide +kernel
theorem dX12_letter_95 : decode cX12_letter 95 = .ok (.iload_n 1, 1) := by decide +kernel
theorem dX12_letter_96 : decode cX12_letter 96 = .ok (.ifCond .ne 7, 3) := by decide +kernel
theorem dX12_letter_99 : decode cX12_letter 99 = .ok (.iload_n 2, 1) := by decide +kernel
theorem dX12_letter_100 : decode cX12_letter 100 = .ok (.ifCond .eq 22, 3) := by decide +kernel
theorem dX12_letter_103 : decode cX12_letter 103 = .ok (.aload_n 0, 1) := by decide +kernel
theorem dX12_letter_104 : decode cX12_letter 104 = .ok (.getfield 275, 3) := by decide +kernel
theorem dX12_letter_107 : decode cX12_letter 107 = .ok (.aload_n 0, 1) := by decide +kernel
theorem dX12_letter_108 : decode cX12_letter 108 = .ok (.aload_n 0, 1) := by decide +kernel
theorem dX12_letter_109 : decode cX12_letter 109 = .ok (.getfield 272, 3) := by decide +kernel
theorem dX12_letter_112 : decode cX12_letter 112 = .ok (.invokevirtual 308, 3) := by decide +kernel
theorem dX12_letter_115 : decode cX12_letter 115 = .ok (.if_icmp .lt 7, 3) := by decide +kernel
theorem dX12_letter_118 : decode cX12_letter 118 = .ok (.iconst 1, 1) := by decide +kernel
theorem dX12_letter_119 : decode cX12_letter 119 = .ok (.goto 4, 3) := by decide +kernel
theorem dX12_letter_122 : decode cX12_letter 122 = .ok (.iconst 0, 1) := by decide +kernel
theorem dX12_letter_123 : decode cX12_letter 123 = .ok (.istore 4, 2) := by decide +kernel
theorem dX12_letter_125 : decode cX12_letter 125 = .ok (.iload 4, 2) := by decide +kernel
theorem dX12_letter_127 : decode cX12_letter 127 = .ok (.ifCond .eq 15, 3) := by decide +kernel
theorem dX12_letter_130 : decode cX12_letter 130 = .ok (.aload_n 0, 1) := by decide +kernel
theorem dX12_letter_131 : decode cX12_letter 131 = .ok (.getfield 171, 3) := by decide +kernel
theorem dX12_letter_134 : decode cX12_letter 134 = .ok (.bipush 60, 2) := by decide +kernel
theorem dX12_letter_136 : decode cX12_letter 136 = .ok (.if_icmp .ne 22, 3) := by decide +kernel
theorem dX12_letter_139 : decode cX12_letter 139 = .ok (.goto 12, 3) := by decide +kernel
theorem dX12_letter_142 : decode cX12_letter 142 = .ok (.aload_n 0, 1) := by decide +kernel
theorem dX12_letter_143 : decode cX12_letter 143 = .ok (.getfield 311, 3) := by decide +kernel
theorem dX12_letter_146 : decode cX12_letter 146 = .ok (.bipush 20, 2) := by decide +kernel
theorem dX12_letter_148 : decode cX12_letter 148 = .ok (.if_icmp .ne 10, 3) := by decide +kernel
theorem dX12_letter_151 : decode cX12_letter 151 = .ok (.aload_n 0, 1) := by decide +kernel
theorem dX12_letter_152 : decode cX12_letter 152 = .ok (.iconst 2, 1) := by decide +kernel
theorem dX12_letter_153 : decode cX12_letter 153 = .ok (.putfield 165, 3) := by decide +kernel
theorem dX12_letter_156 : decode cX12_letter 156 = .ok (.iconst 0, 1) := by decide +kernel
theorem dX12_letter_157 : decode cX12_letter 157 = .ok (.ireturn, 1) := by decide +kernel
theorem dX12_letter_158 : decode cX12_letter 158 = .ok (.iload 4, 2) := by decide +kernel
theorem dX12_letter_160 : decode cX12_letter 160 = .ok (.ifCond .eq 26, 3) := by decide +kernel
theorem dX12_letter_163 : decode cX12_letter 163 = .ok (.aload_n 0, 1) := by decide +kernel
theorem dX12_letter_164 : decode cX12_letter 164 = .ok (.dup, 1) := by decide +kernel
theorem dX12_letter_165 : decode cX12_letter 165 = .ok (.getfield 314, 3) := by decide +kernel
theorem dX12_letter_168 : decode cX12_letter 168 = .ok (.iload_n 2, 1) := by decide +kernel
theorem dX12_letter_169 : decode cX12_letter 169 = .ok (.ifCond .eq 7, 3) := by decide +kernel
theorem dX12_letter_172 : decode cX12_letter 172 = .ok (.iconst 1, 1) := by decide +kernel
theorem dX12_letter_173 : decode cX12_letter 173 = .ok (.goto 4, 3) := by decide +kernel
theorem dX12_letter_176 : decode cX12_letter 176 = .ok (.iconst 0, 1) := by decide +kernel
theorem dX12_letter_177 : decode cX12_letter 177 = .ok (.iadd, 1) := by decide +kernel
theorem dX12_letter_178 : decode cX12_letter 178 = .ok (.putfield 314, 3) := by decide +kernel
theorem dX12_letter_181 : decode cX12_letter 181 = .ok (.aload_n 0, 1) := by decide +kernel
theorem dX12_letter_182 : decode cX12_letter 182 = .ok (.invokevirtual 317, 3) := by decide +kernel
theorem dX12_letter_185 : decode cX12_letter 185 = .ok (.ireturn, 1) := by decide +kernel
theorem dX12_letter_186 : decode cX12_letter 186 = .ok (.aload_n 0, 1) := by decide +kernel
theorem dX12_letter_187 : decode cX12_letter 187 = .ok (.getfield 320, 3) := by decide +kernel
theorem dX12_letter_190 : decode cX12_letter 190 = .ok (.aload_n 0, 1) := by decide +kernel
theorem dX12_letter_191 : decode cX12_letter 191 = .ok (.getfield 78, 3) := by decide +kernel
theorem dX12_letter_194 : decode cX12_letter 194 = .ok (.arraylength, 1) := by decide +kernel
theorem dX12_letter_195 : decode cX12_letter 195 = .ok (.if_icmp .ne 7, 3) := by decide +kernel
theorem dX12_letter_198 : decode cX12_letter 198 = .ok (.aload_n 0, 1) := by decide +kernel
theorem dX12_letter_199 : decode cX12_letter 199 = .ok (.invokevirtual 323, 3) := by decide +kernel
theorem dX12_letter_202 : decode cX12_letter 202 = .ok (.aload_n 0, 1) := by decide +kernel
theorem dX12_letter_203 : decode cX12_letter 203 = .ok (.getfield 71, 3) := by decide +kernel
theorem dX12_letter_206 : decode cX12_letter 206 = .ok (.aload_n 0, 1) := by decide +kernel
theorem dX12_letter_207 : decode cX12_letter 207 = .ok (.getfield 320, 3) := by decide +kernel
theorem dX12_letter_210 : decode cX12_letter 210 = .ok (.iconst 1, 1) := by decide +kernel
theorem dX12_letter_211 : decode cX12_letter 211 = .ok (.bastore, 1) := by decide +kernel
theorem dX12_letter_212 : decode cX12_letter 212 = .ok (.aload_n 0, 1) := by decide +kernel
theorem dX12_letter_213 : decode cX12_letter 213 = .ok (.getfield 75, 3) := by decide +kernel
theorem dX12_letter_216 : decode cX12_letter 216 = .ok (.aload_n 0, 1) := by decide +kernel
theorem dX12_letter_217 : decode cX12_letter 217 = .ok (.getfield 320, 3) := by decide +kernel
theorem dX12_letter_220 : decode cX12_letter 220 = .ok (.aload_n 0, 1) := by decide +kernel
theorem dX12_letter_221 : decode cX12_letter 221 = .ok (.getfield 283, 3) := by decide +kernel
theorem dX12_letter_224 : decode cX12_letter 224 = .ok (.iastore, 1) := by decide +kernel
theorem dX12_letter_225 : decode cX12_letter 225 = .ok (.aload_n 0, 1) := by decide +kernel
theorem dX12_letter_226 : decode cX12_letter 226 = .ok (.getfield 78, 3) := by decide +kernel
theorem dX12_letter_229 : decode cX12_letter 229 = .ok (.aload_n 0, 1) := by decide +kernel
theorem dX12_letter_230 : decode cX12_letter 230 = .ok (.getfield 320, 3) := by decide +kernel
theorem dX12_letter_233 : decode cX12_letter 233 = .ok (.aload_n 0, 1) := by decide +kernel
theorem dX12_letter_234 : decode cX12_letter 234 = .ok (.getfield 262, 3) := by decide +kernel
theorem dX12_letter_237 : decode cX12_letter 237 = .ok (.iastore, 1) := by decide +kernel
theorem dX12_letter_238 : decode cX12_letter 238 = .ok (.aload_n 0, 1) := by decide +kernel
theorem dX12_letter_239 : decode cX12_letter 239 = .ok (.getfield 81, 3) := by decide +kernel
theorem dX12_letter_242 : decode cX12_letter 242 = .ok (.aload_n 0, 1) := by decide +kernel
theorem dX12_letter_243 : decode cX12_letter 243 = .ok (.getfield 320, 3) := by decide +kernel
theorem dX12_letter_246 : decode cX12_letter 246 = .ok (.iload_n 3, 1) := by decide +kernel
theorem dX12_letter_247 : decode cX12_letter 247 = .ok (.iastore, 1) := by decide +kernel
theorem dX12_letter_248 : decode cX12_letter 248 = .ok (.aload_n 0, 1) := by decide +kernel
theorem dX12_letter_249 : decode cX12_letter 249 = .ok (.getfield 84, 3) := by decide +kernel
theorem dX12_letter_252 : decode cX12_letter 252 = .ok (.aload_n 0, 1) := by decide +kernel
theorem dX12_letter_253 : decode cX12_letter 253 = .ok (.getfield 320, 3) := by decide +kernel
theorem dX12_letter_256 : decode cX12_letter 256 = .ok (.aload_n 0, 1) := by decide +kernel
theorem dX12_letter_257 : decode cX12_letter 257 = .ok (.getfield 272, 3) := by decide +kernel
theorem dX12_letter_260 : decode cX12_letter 260 = .ok (.iastore, 1) := by decide +kernel
theorem dX12_letter_261 : decode cX12_letter 261 = .ok (.aload_n 0, 1) := by decide +kernel
theorem dX12_letter_262 : decode cX12_letter 262 = .ok (.getfield 87, 3) := by decide +kernel
theorem dX12_letter_265 : decode cX12_letter 265 = .ok (.aload_n 0, 1) := by decide +kernel
theorem dX12_letter_266 : decode cX12_letter 266 = .ok (.getfield 320, 3) := by decide +kernel
theorem dX12_letter_269 : decode cX12_letter 269 = .ok (.aload_n 0, 1) := by decide +kernel
theorem dX12_letter_270 : decode cX12_letter 270 = .ok (.getfield 275, 3) := by decide +kernel
theorem dX12_letter_273 : decode cX12_letter 273 = .ok (.iastore, 1) := by decide +kernel
theorem dX12_letter_274 : decode cX12_letter 274 = .ok (.iconst 0, 1) := by decide +kernel
theorem dX12_letter_275 : decode cX12_letter 275 = .ok (.istore 5, 2) := by decide +kernel
theorem dX12_letter_277 : decode cX12_letter 277 = .ok (.iload 5, 2) := by decide +kernel
theorem dX12_letter_279 : decode cX12_letter 279 = .ok (.aload_n 0, 1) := by decide +kernel
theorem dX12_letter_280 : decode cX12_letter 280 = .ok (.getfield 262, 3) := by decide +kernel
theorem dX12_letter_283 : decode cX12_letter 283 = .ok (.if_icmp .ge 53, 3) := by decide +kernel
theorem dX12_letter_286 : decode cX12_letter 286 = .ok (.aload_n 0, 1) := by decide +kernel
theorem dX12_letter_287 : decode cX12_letter 287 = .ok (.getfield 90, 3) := by decide +kernel
theorem dX12_letter_290 : decode cX12_letter 290 = .ok (.bipush 8, 2) := by decide +kernel
theorem dX12_letter_292 : decode cX12_letter 292 = .ok (.aload_n 0, 1) := by decide +kernel
theorem dX12_letter_293 : decode cX12_letter 293 = .ok (.getfield 320, 3) := by decide +kernel
theorem dX12_letter_296 : decode cX12_letter 296 = .ok (.imul, 1) := by decide +kernel
theorem dX12_letter_297 : decode cX12_letter 297 = .ok (.iload 5, 2) := by decide +kernel
theorem dX12_letter_299 : decode cX12_letter 299 = .ok (.iadd, 1) := by decide +kernel
theorem dX12_letter_300 : decode cX12_letter 300 = .ok (.aload_n 0, 1) := by decide +kernel
theorem dX12_letter_301 : decode cX12_letter 301 = .ok (.getfield 65, 3) := by decide +kernel
theorem dX12_letter_304 : decode cX12_letter 304 = .ok (.iload 5, 2) := by decide +kernel
theorem dX12_letter_306 : decode cX12_letter 306 = .ok (.iaload, 1) := by decide +kernel
theorem dX12_letter_307 : decode cX12_letter 307 = .ok (.iastore, 1) := by decide +kernel
theorem dX12_letter_308 : decode cX12_letter 308 = .ok (.aload_n 0, 1) := by decide +kernel
theorem dX12_letter_309 : decode cX12_letter 309 = .ok (.getfield 93, 3) := by decide +kernel
theorem dX12_letter_312 : decode cX12_letter 312 = .ok (.bipush 8, 2) := by decide +kernel
theorem dX12_letter_314 : decode cX12_letter 314 = .ok (.aload_n 0, 1) := by decide +kernel
theorem dX12_letter_315 : decode cX12_letter 315 = .ok (.getfield 320, 3) := by decide +kernel
theorem dX12_letter_318 : decode cX12_letter 318 = .ok (.imul, 1) := by decide +kernel
theorem dX12_letter_319 : decode cX12_letter 319 = .ok (.iload 5, 2) := by decide +kernel
theorem dX12_letter_321 : decode cX12_letter 321 = .ok (.iadd, 1) := by decide +kernel
theorem dX12_letter_322 : decode cX12_letter 322 = .ok (.aload_n 0, 1) := by decide +kernel
theorem dX12_letter_323 : decode cX12_letter 323 = .ok (.getfield 68, 3) := by decide +kernel
theorem dX12_letter_326 : decode cX12_letter 326 = .ok (.iload 5, 2) := by decide +kernel
theorem dX12_letter_328 : decode cX12_letter 328 = .ok (.iaload, 1) := by decide +kernel
theorem dX12_letter_329 : decode cX12_letter 329 = .ok (.iastore, 1) := by decide +kernel
theorem dX12_letter_330 : decode cX12_letter 330 = .ok (.iinc 5 1, 3) := by decide +kernel
theorem dX12_letter_333 : decode cX12_letter 333 = .ok (.goto (-56), 3) := by decide +kernel
theorem dX12_letter_336 : decode cX12_letter 336 = .ok (.aload_n 0, 1) := by decide +kernel
theorem dX12_letter_337 : decode cX12_letter 337 = .ok (.dup, 1) := by decide +kernel
theorem dX12_letter_338 : decode cX12_letter 338 = .ok (.getfield 320, 3) := by decide +kernel
theorem dX12_letter_341 : decode cX12_letter 341 = .ok (.iconst 1, 1) := by decide +kernel
theorem dX12_letter_342 : decode cX12_letter 342 = .ok (.iadd, 1) := by decide +kernel
theorem dX12_letter_343 : decode cX12_letter 343 = .ok (.putfield 320, 3) := by decide +kernel
theorem dX12_letter_346 : decode cX12_letter 346 = .ok (.aload_n 0, 1) := by decide +kernel
theorem dX12_letter_347 : decode cX12_letter 347 = .ok (.dup, 1) := by decide +kernel
theorem dX12_letter_348 : decode cX12_letter 348 = .ok (.getfield 311, 3) := by decide +kernel
theorem dX12_letter_351 : decode cX12_letter 351 = .ok (.iconst 1, 1) := by decide +kernel
theorem dX12_letter_352 : decode cX12_letter 352 = .ok (.iadd, 1) := by decide +kernel
theorem dX12_letter_353 : decode cX12_letter 353 = .ok (.putfield 311, 3) := by decide +kernel
theorem dX12_letter_356 : decode cX12_letter 356 = .ok (.iconst (-1), 1) := by decide +kernel
theorem dX12_letter_357 : decode cX12_letter 357 = .ok (.aload_n 0, 1) := by decide +kernel
theorem dX12_letter_358 : decode cX12_letter 358 = .ok (.getfield 320, 3) := by decide +kernel
theorem dX12_letter_361 : decode cX12_letter 361 = .ok (.isub, 1) := by decide +kernel
theorem dX12_letter_362 : decode cX12_letter 362 = .ok (.ireturn, 1) := by decide +kernel
theorem dX12_longer_0 : decode cX12_longer 0 = .ok (.iconst 2, 1) := by decide +kernel
theorem dX12_longer_1 : decode cX12_longer 1 = .ok (.aload_n 0, 1) := by decide +kernel
theorem dX12_longer_2 : decode cX12_longer 2 = .ok (.arraylength, 1) := by decide +kernel
theorem dX12_longer_3 : decode cX12_longer 3 = .ok (.imul, 1) := by decide +kernel
theorem dX12_longer_4 : decode cX12_longer 4 = .ok (.newarray .int, 2) := by decide +kernel
theorem dX12_longer_6 : decode cX12_longer 6 = .ok (.astore_n 1, 1) := by decide +kernel
theorem dX12_longer_7 : decode cX12_longer 7 = .ok (.iconst 0, 1) := by decide +kernel
theorem dX12_longer_8 : decode cX12_longer 8 = .ok (.istore_n 2, 1) := by decide +kernel
theorem dX12_longer_9 : decode cX12_longer 9 = .ok (.iload_n 2, 1) := by decide +kernel
theorem dX12_longer_10 : decode cX12_longer 10 = .ok (.aload_n 0, 1) := by decide +kernel
theorem dX12_longer_11 : decode cX12_longer 11 = .ok (.arraylength, 1) := by decide +kernel
theorem dX12_longer_12 : decode cX12_longer 12 = .ok (.if_icmp .ge 15, 3) := by decide +kernel
theorem dX12_longer_15 : decode cX12_longer 15 = .ok (.aload_n 1, 1) := by decide +kernel
theorem dX12_longer_16 : decode cX12_longer 16 = .ok (.iload_n 2, 1) := by decide +kernel
theorem dX12_longer_17 : decode cX12_longer 17 = .ok (.aload_n 0, 1) := by decide +kernel
theorem dX12_longer_18 : decode cX12_longer 18 = .ok (.iload_n 2, 1) := by decide +kernel
theorem dX12_longer_19 : decode cX12_longer 19 = .ok (.iaload, 1) := by decide +kernel
theorem dX12_longer_20 : decode cX12_longer 20 = .ok (.iastore, 1) := by decide +kernel
theorem dX12_longer_21 : decode cX12_longer 21 = .ok (.iinc 2 1, 3) := by decide +kernel
theorem dX12_longer_24 : decode cX12_longer 24 = .ok (.goto (-15), 3) := by decide +kernel
theorem dX12_longer_27 : decode cX12_longer 27 = .ok (.aload_n 1, 1) := by decide +kernel
theorem dX12_longer_28 : decode cX12_longer 28 = .ok (.areturn, 1) := by decide +kernel
set_option maxRecDepth 20000 in
theorem glX12_grow_0 : GoodIn wsX12_grow ([.fieldLink RX12 320 "PostHouseModel" "doubts" "I", .arrayClass .boolean, .fieldLink RX12 71 "PostHouseModel" "doubtWaits" "[Z", .fieldLink RX12 75 "PostHouseModel" "doubtMendings" "[I", .fieldLink RX12 78 "PostHouseModel" "doubtLines" "[I", .fieldLink RX12 81 "PostHouseModel" "doubtKnown" "[I", .fieldLink RX12 84 "PostHouseModel" "doubtSum" "[I", .fieldLink RX12 87 "PostHouseModel" "doubtMoney" "[I", .fieldLink RX12 90 "PostHouseModel" "doubtCode" "[I", .fieldLink RX12 93 "PostHouseModel" "doubtMany" "[I", .methodLink RX12 326 yX12_longer, .static yX12_longer, .initialized RX12, .code yX12_longer cX12_longer 3 (some (.array .int)), .arrayClass .int]) := goodIn_sub (fun _ h => List.mem_cons_of_mem _ (List.mem_append_left _ (h))) (by decide +kernel)
set_option maxRecDepth 20000 in
theorem ggX12_grow_X12_longer : GoodIn wsX12_grow wsX12_longer := goodIn_c (glX12_grow_0 _ (List.mem_of_getElem? (i := 13) rfl)) (goodIn_c (glX12_grow_0 _ (List.mem_of_getElem? (i := 14) rfl)) (goodIn_n))
set_option maxRecDepth 20000 in
theorem gX12_grow_X12_longer : GoodIn wsX12_grow (va_wsS RX12 326 yX12_longer wsX12_longer) := goodIn_app (goodIn_of _ (by decide +kernel)) ggX12_grow_X12_longer
theorem dX12_grow_0 : decode cX12_grow 0 = .ok (.iconst 2, 1) := by decide +kernel
theorem dX12_grow_1 : decode cX12_grow 1 = .ok (.aload_n 0, 1) := by decide +kernel
theorem dX12_grow_2 : decode cX12_grow 2 = .ok (.getfield 320, 3) := by decide +kernel
theorem dX12_grow_5 : decode cX12_grow 5 = .ok (.imul, 1) := by decide +kernel
theorem dX12_grow_6 : decode cX12_grow 6 = .ok (.newarray .boolean, 2) := by decide +kernel
theorem dX12_grow_8 : decode cX12_grow 8 = .ok (.astore_n 1, 1) := by decide +kernel
theorem dX12_grow_9 : decode cX12_grow 9 = .ok (.iconst 0, 1) := by decide +kernel
theorem dX12_grow_10 : decode cX12_grow 10 = .ok (.istore_n 2, 1) := by decide +kernel
theorem dX12_grow_11 : decode cX12_grow 11 = .ok (.iload_n 2, 1) := by decide +kernel
theorem dX12_grow_12 : decode cX12_grow 12 = .ok (.aload_n 0, 1) := by decide +kernel
theorem dX12_grow_13 : decode cX12_grow 13 = .ok (.getfield 320, 3) := by decide +kernel
theorem dX12_grow_16 : decode cX12_grow 16 = .ok (.if_icmp .ge 18, 3) := by decide +kernel
theorem dX12_grow_19 : decode cX12_grow 19 = .ok (.aload_n 1, 1) := by decide +kernel
theorem dX12_grow_20 : decode cX12_grow 20 = .ok (.iload_n 2, 1) := by decide +kernel
theorem dX12_grow_21 : decode cX12_grow 21 = .ok (.aload_n 0, 1) := by decide +kernel
theorem dX12_grow_22 : decode cX12_grow 22 = .ok (.getfield 71, 3) := by decide +kernel
theorem dX12_grow_25 : decode cX12_grow 25 = .ok (.iload_n 2, 1) := by decide +kernel
theorem dX12_grow_26 : decode cX12_grow 26 = .ok (.baload, 1) := by decide +kernel
theorem dX12_grow_27 : decode cX12_grow 27 = .ok (.bastore, 1) := by decide +kernel
theorem dX12_grow_28 : decode cX12_grow 28 = .ok (.iinc 2 1, 3) := by decide +kernel
theorem dX12_grow_31 : decode cX12_grow 31 = .ok (.goto (-20), 3) := by decide +kernel
theorem dX12_grow_34 : decode cX12_grow 34 = .ok (.aload_n 0, 1) := by decide +kernel
theorem dX12_grow_35 : decode cX12_grow 35 = .ok (.aload_n 1, 1) := by decide +kernel
theorem dX12_grow_36 : decode cX12_grow 36 = .ok (.putfield 71, 3) := by decide +kernel
theorem dX12_grow_39 : decode cX12_grow 39 = .ok (.aload_n 0, 1) := by decide +kernel
theorem dX12_grow_40 : decode cX12_grow 40 = .ok (.aload_n 0, 1) := by decide +kernel
theorem dX12_grow_41 : decode cX12_grow 41 = .ok (.getfield 75, 3) := by decide +kernel
theorem dX12_grow_44 : decode cX12_grow 44 = .ok (.invokestatic 326, 3) := by decide +kernel
theorem dX12_grow_47 : decode cX12_grow 47 = .ok (.putfield 75, 3) := by decide +kernel
theorem dX12_grow_50 : decode cX12_grow 50 = .ok (.aload_n 0, 1) := by decide +kernel
theorem dX12_grow_51 : decode cX12_grow 51 = .ok (.aload_n 0, 1) := by decide +kernel
theorem dX12_grow_52 : decode cX12_grow 52 = .ok (.getfield 78, 3) := by decide +kernel
theorem dX12_grow_55 : decode cX12_grow 55 = .ok (.invokestatic 326, 3) := by decide +kernel
theorem dX12_grow_58 : decode cX12_grow 58 = .ok (.putfield 78, 3) := by decide +kernel
theorem dX12_grow_61 : decode cX12_grow 61 = .ok (.aload_n 0, 1) := by decide +kernel
theorem dX12_grow_62 : decode cX12_grow 62 = .ok (.aload_n 0, 1) := by decide +kernel
theorem dX12_grow_63 : decode cX12_grow 63 = .ok (.getfield 81, 3) := by decide +kernel
theorem dX12_grow_66 : decode cX12_grow 66 = .ok (.invokestatic 326, 3) := by decide +kernel
theorem dX12_grow_69 : decode cX12_grow 69 = .ok (.putfield 81, 3) := by decide +kernel
theorem dX12_grow_72 : decode cX12_grow 72 = .ok (.aload_n 0, 1) := by decide +kernel
theorem dX12_grow_73 : decode cX12_grow 73 = .ok (.aload_n 0, 1) := by decide +kernel
theorem dX12_grow_74 : decode cX12_grow 74 = .ok (.getfield 84, 3) := by decide +kernel
theorem dX12_grow_77 : decode cX12_grow 77 = .ok (.invokestatic 326, 3) := by decide +kernel
theorem dX12_grow_80 : decode cX12_grow 80 = .ok (.putfield 84, 3) := by decide +kernel
theorem dX12_grow_83 : decode cX12_grow 83 = .ok (.aload_n 0, 1) := by decide +kernel
theorem dX12_grow_84 : decode cX12_grow 84 = .ok (.aload_n 0, 1) := by decide +kernel
theorem dX12_grow_85 : decode cX12_grow 85 = .ok (.getfield 87, 3) := by decide +kernel
theorem dX12_grow_88 : decode cX12_grow 88 = .ok (.invokestatic 326, 3) := by decide +kernel
theorem dX12_grow_91 : decode cX12_grow 91 = .ok (.putfield 87, 3) := by decide +kernel
theorem dX12_grow_94 : decode cX12_grow 94 = .ok (.aload_n 0, 1) := by decide +kernel
theorem dX12_grow_95 : decode cX12_grow 95 = .ok (.aload_n 0, 1) := by decide +kernel
theorem dX12_grow_96 : decode cX12_grow 96 = .ok (.getfield 90, 3) := by decide +kernel
theorem dX12_grow_99 : decode cX12_grow 99 = .ok (.invokestatic 326, 3) := by decide +kernel
theorem dX12_grow_102 : decode cX12_grow 102 = .ok (.putfield 90, 3) := by decide +kernel
theorem dX12_grow_105 : decode cX12_grow 105 = .ok (.aload_n 0, 1) := by decide +kernel
theorem dX12_grow_106 : decode cX12_grow 106 = .ok (.aload_n 0, 1) := by decide +kernel
theorem dX12_grow_107 : decode cX12_grow 107 = .ok (.getfield 93, 3) := by decide +kernel
theorem dX12_grow_110 : decode cX12_grow 110 = .ok (.invokestatic 326, 3) := by decide +kernel
theorem dX12_grow_113 : decode cX12_grow 113 = .ok (.putfield 93, 3) := by decide +kernel
theorem dX12_grow_116 : decode cX12_grow 116 = .ok (.return_, 1) := by decide +kernel
set_option maxRecDepth 20000 in
theorem glX12_makeOrder_1 : GoodIn wsX12_makeOrder (wsX12_makeOrder_r2) := goodIn_sub (fun _ h => List.mem_cons_of_mem _ (List.mem_append_left _ (List.mem_append_right _ (h)))) (by decide +kernel)
set_option maxRecDepth 20000 in
theorem glX12_makeOrder_0 : GoodIn wsX12_makeOrder (wsX12_makeOrder_r1) := goodIn_sub (fun _ h => List.mem_cons_of_mem _ (List.mem_append_left _ (List.mem_append_left _ (h)))) (by decide +kernel)
set_option maxRecDepth 20000 in
theorem glX12_makeOrder_2 : GoodIn wsX12_makeOrder (wsX120) := goodIn_sub (fun _ h => List.mem_cons_of_mem _ (List.mem_append_right _ (h))) ag_wsX120
set_option maxRecDepth 20000 in
theorem ggX12_makeOrder_X12_priceOf : GoodIn wsX12_makeOrder wsX12_priceOf := goodIn_c (glX12_makeOrder_1 _ (List.mem_of_getElem? (i := 1) rfl)) (goodIn_app (goodIn_c (glX12_makeOrder_0 _ (List.mem_of_getElem? (i := 16) rfl)) (goodIn_c (glX12_makeOrder_1 _ (List.mem_of_getElem? (i := 2) rfl)) (goodIn_c (glX12_makeOrder_1 _ (List.mem_of_getElem? (i := 3) rfl)) (goodIn_c (glX12_makeOrder_1 _ (List.mem_of_getElem? (i := 4) rfl)) (goodIn_c (glX12_makeOrder_1 _ (List.mem_of_getElem? (i := 0) rfl)) (goodIn_c (glX12_makeOrder_1 _ (List.mem_of_getElem? (i := 5) rfl)) (goodIn_c (glX12_makeOrder_1 _ (List.mem_of_getElem? (i := 6) rfl)) (goodIn_c (glX12_makeOrder_1 _ (List.mem_of_getElem? (i := 7) rfl)) (goodIn_c (glX12_makeOrder_1 _ (List.mem_of_getElem? (i := 8) rfl)) (goodIn_c (glX12_makeOrder_1 _ (List.mem_of_getElem? (i := 9) rfl)) (goodIn_c (glX12_makeOrder_1 _ (List.mem_of_getElem? (i := 10) rfl)) (goodIn_c (glX12_makeOrder_1 _ (List.mem_of_getElem? (i := 11) rfl)) (goodIn_c (glX12_makeOrder_1 _ (List.mem_of_getElem? (i := 12) rfl)) (goodIn_c (glX12_makeOrder_1 _ (List.mem_of_getElem? (i := 13) rfl)) (goodIn_c (glX12_makeOrder_1 _ (List.mem_of_getElem? (i := 14) rfl)) (goodIn_c (glX12_makeOrder_1 _ (List.mem_of_getElem? (i := 15) rfl)) (goodIn_n))))))))))))))))) (glX12_makeOrder_2))
set_option maxRecDepth 20000 in
theorem gX12_makeOrder_X12_priceOf : GoodIn wsX12_makeOrder (wsV RX12 280 RX12 yX12_priceOf wsX12_priceOf) := goodIn_app (goodIn_of _ (by decide +kernel)) ggX12_makeOrder_X12_priceOf
set_option maxRecDepth 20000 in
theorem ggX12_makeOrder_X12_thingOf : GoodIn wsX12_makeOrder wsX12_thingOf := goodIn_c (glX12_makeOrder_1 _ (List.mem_of_getElem? (i := 5) rfl)) (goodIn_app (goodIn_c (glX12_makeOrder_1 _ (List.mem_of_getElem? (i := 6) rfl)) (goodIn_c (glX12_makeOrder_1 _ (List.mem_of_getElem? (i := 7) rfl)) (goodIn_n))) (glX12_makeOrder_2))
set_option maxRecDepth 20000 in
theorem gX12_makeOrder_X12_thingOf : GoodIn wsX12_makeOrder (wsV RX12 189 RX12 yX12_thingOf wsX12_thingOf) := goodIn_app (goodIn_of _ (by decide +kernel)) ggX12_makeOrder_X12_thingOf
set_option maxRecDepth 20000 in
theorem ggX12_makeOrder_X12_due : GoodIn wsX12_makeOrder wsX12_due := goodIn_c (glX12_makeOrder_1 _ (List.mem_of_getElem? (i := 19) rfl)) (goodIn_app (goodIn_c (glX12_makeOrder_1 _ (List.mem_of_getElem? (i := 20) rfl)) (goodIn_n)) (glX12_makeOrder_2))
set_option maxRecDepth 20000 in
theorem gX12_makeOrder_X12_due : GoodIn wsX12_makeOrder (wsV RX12 308 RX12 yX12_due wsX12_due) := goodIn_app (goodIn_of _ (by decide +kernel)) ggX12_makeOrder_X12_due
theorem dX12_makeOrder_0 : decode cX12_makeOrder 0 = .ok (.aload_n 0, 1) := by decide +kernel
theorem dX12_makeOrder_1 : decode cX12_makeOrder 1 = .ok (.getfield 171, 3) := by decide +kernel
theorem dX12_makeOrder_4 : decode cX12_makeOrder 4 = .ok (.istore_n 1, 1) := by decide +kernel
theorem dX12_makeOrder_5 : decode cX12_makeOrder 5 = .ok (.aload_n 0, 1) := by decide +kernel
theorem dX12_makeOrder_6 : decode cX12_makeOrder 6 = .ok (.dup, 1) := by decide +kernel
theorem dX12_makeOrder_7 : decode cX12_makeOrder 7 = .ok (.getfield 171, 3) := by decide +kernel
theorem dX12_makeOrder_10 : decode cX12_makeOrder 10 = .ok (.iconst 1, 1) := by decide +kernel
theorem dX12_makeOrder_11 : decode cX12_makeOrder 11 = .ok (.iadd, 1) := by decide +kernel
theorem dX12_makeOrder_12 : decode cX12_makeOrder 12 = .ok (.putfield 171, 3) := by decide +kernel
theorem dX12_makeOrder_15 : decode cX12_makeOrder 15 = .ok (.iconst 0, 1) := by decide +kernel
theorem dX12_makeOrder_16 : decode cX12_makeOrder 16 = .ok (.istore_n 2, 1) := by decide +kernel
theorem dX12_makeOrder_17 : decode cX12_makeOrder 17 = .ok (.aload_n 0, 1) := by decide +kernel
theorem dX12_makeOrder_18 : decode cX12_makeOrder 18 = .ok (.getfield 108, 3) := by decide +kernel
theorem dX12_makeOrder_21 : decode cX12_makeOrder 21 = .ok (.iload_n 1, 1) := by decide +kernel
theorem dX12_makeOrder_22 : decode cX12_makeOrder 22 = .ok (.iconst 0, 1) := by decide +kernel
theorem dX12_makeOrder_23 : decode cX12_makeOrder 23 = .ok (.iastore, 1) := by decide +kernel
theorem dX12_makeOrder_24 : decode cX12_makeOrder 24 = .ok (.iconst 0, 1) := by decide +kernel
theorem dX12_makeOrder_25 : decode cX12_makeOrder 25 = .ok (.istore_n 3, 1) := by decide +kernel
theorem dX12_makeOrder_26 : decode cX12_makeOrder 26 = .ok (.iload_n 3, 1) := by decide +kernel
theorem dX12_makeOrder_27 : decode cX12_makeOrder 27 = .ok (.aload_n 0, 1) := by decide +kernel
theorem dX12_makeOrder_28 : decode cX12_makeOrder 28 = .ok (.getfield 262, 3) := by decide +kernel
theorem dX12_makeOrder_31 : decode cX12_makeOrder 31 = .ok (.if_icmp .ge 160, 3) := by decide +kernel
theorem dX12_makeOrder_34 : decode cX12_makeOrder 34 = .ok (.aload_n 0, 1) := by decide +kernel
theorem dX12_makeOrder_35 : decode cX12_makeOrder 35 = .ok (.aload_n 0, 1) := by decide +kernel
theorem dX12_makeOrder_36 : decode cX12_makeOrder 36 = .ok (.getfield 65, 3) := by decide +kernel
theorem dX12_makeOrder_39 : decode cX12_makeOrder 39 = .ok (.iload_n 3, 1) := by decide +kernel
theorem dX12_makeOrder_40 : decode cX12_makeOrder 40 = .ok (.iaload, 1) := by decide +kernel
theorem dX12_makeOrder_41 : decode cX12_makeOrder 41 = .ok (.invokevirtual 280, 3) := by decide +kernel
theorem dX12_makeOrder_44 : decode cX12_makeOrder 44 = .ok (.istore 4, 2) := by decide +kernel
theorem dX12_makeOrder_46 : decode cX12_makeOrder 46 = .ok (.iload 4, 2) := by decide +kernel
theorem dX12_makeOrder_48 : decode cX12_makeOrder 48 = .ok (.iconst (-1), 1) := by decide +kernel
theorem dX12_makeOrder_49 : decode cX12_makeOrder 49 = .ok (.if_icmp .ne 6, 3) := by decide +kernel
theorem dX12_makeOrder_52 : decode cX12_makeOrder 52 = .ok (.goto 133, 3) := by decide +kernel
theorem dX12_makeOrder_55 : decode cX12_makeOrder 55 = .ok (.bipush 8, 2) := by decide +kernel
theorem dX12_makeOrder_57 : decode cX12_makeOrder 57 = .ok (.iload_n 1, 1) := by decide +kernel
theorem dX12_makeOrder_58 : decode cX12_makeOrder 58 = .ok (.imul, 1) := by decide +kernel
theorem dX12_makeOrder_59 : decode cX12_makeOrder 59 = .ok (.aload_n 0, 1) := by decide +kernel
theorem dX12_makeOrder_60 : decode cX12_makeOrder 60 = .ok (.getfield 108, 3) := by decide +kernel
theorem dX12_makeOrder_63 : decode cX12_makeOrder 63 = .ok (.iload_n 1, 1) := by decide +kernel
theorem dX12_makeOrder_64 : decode cX12_makeOrder 64 = .ok (.iaload, 1) := by decide +kernel
theorem dX12_makeOrder_65 : decode cX12_makeOrder 65 = .ok (.iadd, 1) := by decide +kernel
theorem dX12_makeOrder_66 : decode cX12_makeOrder 66 = .ok (.istore 5, 2) := by decide +kernel
theorem dX12_makeOrder_68 : decode cX12_makeOrder 68 = .ok (.aload_n 0, 1) := by decide +kernel
theorem dX12_makeOrder_69 : decode cX12_makeOrder 69 = .ok (.getfield 108, 3) := by decide +kernel
theorem dX12_makeOrder_72 : decode cX12_makeOrder 72 = .ok (.iload_n 1, 1) := by decide +kernel
theorem dX12_makeOrder_73 : decode cX12_makeOrder 73 = .ok (.dup2, 1) := by decide +kernel
theorem dX12_makeOrder_74 : decode cX12_makeOrder 74 = .ok (.iaload, 1) := by decide +kernel
theorem dX12_makeOrder_75 : decode cX12_makeOrder 75 = .ok (.iconst 1, 1) := by decide +kernel
theorem dX12_makeOrder_76 : decode cX12_makeOrder 76 = .ok (.iadd, 1) := by decide +kernel
theorem dX12_makeOrder_77 : decode cX12_makeOrder 77 = .ok (.iastore, 1) := by decide +kernel
theorem dX12_makeOrder_78 : decode cX12_makeOrder 78 = .ok (.aload_n 0, 1) := by decide +kernel
theorem dX12_makeOrder_79 : decode cX12_makeOrder 79 = .ok (.getfield 111, 3) := by decide +kernel
theorem dX12_makeOrder_82 : decode cX12_makeOrder 82 = .ok (.iload 5, 2) := by decide +kernel
theorem dX12_makeOrder_84 : decode cX12_makeOrder 84 = .ok (.aload_n 0, 1) := by decide +kernel
theorem dX12_makeOrder_85 : decode cX12_makeOrder 85 = .ok (.aload_n 0, 1) := by decide +kernel
theorem dX12_makeOrder_86 : decode cX12_makeOrder 86 = .ok (.getfield 65, 3) := by decide +kernel
theorem dX12_makeOrder_89 : decode cX12_makeOrder 89 = .ok (.iload_n 3, 1) := by decide +kernel
theorem dX12_makeOrder_90 : decode cX12_makeOrder 90 = .ok (.iaload, 1) := by decide +kernel
theorem dX12_makeOrder_91 : decode cX12_makeOrder 91 = .ok (.invokevirtual 189, 3) := by decide +kernel
theorem dX12_makeOrder_94 : decode cX12_makeOrder 94 = .ok (.iastore, 1) := by decide +kernel
theorem dX12_makeOrder_95 : decode cX12_makeOrder 95 = .ok (.aload_n 0, 1) := by decide +kernel
theorem dX12_makeOrder_96 : decode cX12_makeOrder 96 = .ok (.getfield 114, 3) := by decide +kernel
theorem dX12_makeOrder_99 : decode cX12_makeOrder 99 = .ok (.iload 5, 2) := by decide +kernel
theorem dX12_makeOrder_101 : decode cX12_makeOrder 101 = .ok (.aload_n 0, 1) := by decide +kernel
theorem dX12_makeOrder_102 : decode cX12_makeOrder 102 = .ok (.getfield 68, 3) := by decide +kernel
theorem dX12_makeOrder_105 : decode cX12_makeOrder 105 = .ok (.iload_n 3, 1) := by decide +kernel
theorem dX12_makeOrder_106 : decode cX12_makeOrder 106 = .ok (.iaload, 1) := by decide +kernel
theorem dX12_makeOrder_107 : decode cX12_makeOrder 107 = .ok (.iastore, 1) := by decide +kernel
theorem dX12_makeOrder_108 : decode cX12_makeOrder 108 = .ok (.aload_n 0, 1) := by decide +kernel
theorem dX12_makeOrder_109 : decode cX12_makeOrder 109 = .ok (.getfield 117, 3) := by decide +kernel
theorem dX12_makeOrder_112 : decode cX12_makeOrder 112 = .ok (.iload 5, 2) := by decide +kernel
theorem dX12_makeOrder_114 : decode cX12_makeOrder 114 = .ok (.iload 4, 2) := by decide +kernel
theorem dX12_makeOrder_116 : decode cX12_makeOrder 116 = .ok (.iastore, 1) := by decide +kernel
theorem dX12_makeOrder_117 : decode cX12_makeOrder 117 = .ok (.aload_n 0, 1) := by decide +kernel
theorem dX12_makeOrder_118 : decode cX12_makeOrder 118 = .ok (.getfield 120, 3) := by decide +kernel
theorem dX12_makeOrder_121 : decode cX12_makeOrder 121 = .ok (.iload 5, 2) := by decide +kernel
theorem dX12_makeOrder_123 : decode cX12_makeOrder 123 = .ok (.iconst 0, 1) := by decide +kernel
theorem dX12_makeOrder_124 : decode cX12_makeOrder 124 = .ok (.iastore, 1) := by decide +kernel
theorem dX12_makeOrder_125 : decode cX12_makeOrder 125 = .ok (.aload_n 0, 1) := by decide +kernel
theorem dX12_makeOrder_126 : decode cX12_makeOrder 126 = .ok (.getfield 123, 3) := by decide +kernel
theorem dX12_makeOrder_129 : decode cX12_makeOrder 129 = .ok (.iload 5, 2) := by decide +kernel
theorem dX12_makeOrder_131 : decode cX12_makeOrder 131 = .ok (.iconst 0, 1) := by decide +kernel
theorem dX12_makeOrder_132 : decode cX12_makeOrder 132 = .ok (.iastore, 1) := by decide +kernel
theorem dX12_makeOrder_133 : decode cX12_makeOrder 133 = .ok (.aload_n 0, 1) := by decide +kernel
theorem dX12_makeOrder_134 : decode cX12_makeOrder 134 = .ok (.getfield 126, 3) := by decide +kernel
theorem dX12_makeOrder_137 : decode cX12_makeOrder 137 = .ok (.iload 5, 2) := by decide +kernel
theorem dX12_makeOrder_139 : decode cX12_makeOrder 139 = .ok (.iconst 0, 1) := by decide +kernel
theorem dX12_makeOrder_140 : decode cX12_makeOrder 140 = .ok (.iastore, 1) := by decide +kernel
theorem dX12_makeOrder_141 : decode cX12_makeOrder 141 = .ok (.aload_n 0, 1) := by decide +kernel
theorem dX12_makeOrder_142 : decode cX12_makeOrder 142 = .ok (.getfield 129, 3) := by decide +kernel
theorem dX12_makeOrder_145 : decode cX12_makeOrder 145 = .ok (.iload 5, 2) := by decide +kernel
theorem dX12_makeOrder_147 : decode cX12_makeOrder 147 = .ok (.iconst 0, 1) := by decide +kernel
theorem dX12_makeOrder_148 : decode cX12_makeOrder 148 = .ok (.iastore, 1) := by decide +kernel
theorem dX12_makeOrder_149 : decode cX12_makeOrder 149 = .ok (.aload_n 0, 1) := by decide +kernel
theorem dX12_makeOrder_150 : decode cX12_makeOrder 150 = .ok (.getfield 132, 3) := by decide +kernel
theorem dX12_makeOrder_153 : decode cX12_makeOrder 153 = .ok (.iload 5, 2) := by decide +kernel
theorem dX12_makeOrder_155 : decode cX12_makeOrder 155 = .ok (.iconst 0, 1) := by decide +kernel
theorem dX12_makeOrder_156 : decode cX12_makeOrder 156 = .ok (.iastore, 1) := by decide +kernel
theorem dX12_makeOrder_157 : decode cX12_makeOrder 157 = .ok (.aload_n 0, 1) := by decide +kernel
theorem dX12_makeOrder_158 : decode cX12_makeOrder 158 = .ok (.getfield 135, 3) := by decide +kernel
theorem dX12_makeOrder_161 : decode cX12_makeOrder 161 = .ok (.iload 5, 2) := by decide +kernel
theorem dX12_makeOrder_163 : decode cX12_makeOrder 163 = .ok (.iconst (-1), 1) := by decide +kernel
theorem dX12_makeOrder_164 : decode cX12_makeOrder 164 = .ok (.iastore, 1) := by decide +kernel
theorem dX12_makeOrder_165 : decode cX12_makeOrder 165 = .ok (.aload_n 0, 1) := by decide +kernel
theorem dX12_makeOrder_166 : decode cX12_makeOrder 166 = .ok (.getfield 138, 3) := by decide +kernel
theorem dX12_makeOrder_169 : decode cX12_makeOrder 169 = .ok (.iload 5, 2) := by decide +kernel
theorem dX12_makeOrder_171 : decode cX12_makeOrder 171 = .ok (.iconst (-1), 1) := by decide +kernel
theorem dX12_makeOrder_172 : decode cX12_makeOrder 172 = .ok (.iastore, 1) := by decide +kernel
theorem dX12_makeOrder_173 : decode cX12_makeOrder 173 = .ok (.iload_n 2, 1) := by decide +kernel
theorem dX12_makeOrder_174 : decode cX12_makeOrder 174 = .ok (.iload 4, 2) := by decide +kernel
theorem dX12_makeOrder_176 : decode cX12_makeOrder 176 = .ok (.aload_n 0, 1) := by decide +kernel
theorem dX12_makeOrder_177 : decode cX12_makeOrder 177 = .ok (.getfield 68, 3) := by decide +kernel
theorem dX12_makeOrder_180 : decode cX12_makeOrder 180 = .ok (.iload_n 3, 1) := by decide +kernel
theorem dX12_makeOrder_181 : decode cX12_makeOrder 181 = .ok (.iaload, 1) := by decide +kernel
theorem dX12_makeOrder_182 : decode cX12_makeOrder 182 = .ok (.imul, 1) := by decide +kernel
theorem dX12_makeOrder_183 : decode cX12_makeOrder 183 = .ok (.iadd, 1) := by decide +kernel
theorem dX12_makeOrder_184 : decode cX12_makeOrder 184 = .ok (.istore_n 2, 1) := by decide +kernel
theorem dX12_makeOrder_185 : decode cX12_makeOrder 185 = .ok (.iinc 3 1, 3) := by decide +kernel
theorem dX12_makeOrder_188 : decode cX12_makeOrder 188 = .ok (.goto (-162), 3) := by decide +kernel
theorem dX12_makeOrder_191 : decode cX12_makeOrder 191 = .ok (.aload_n 0, 1) := by decide +kernel
theorem dX12_makeOrder_192 : decode cX12_makeOrder 192 = .ok (.getfield 96, 3) := by decide +kernel
theorem dX12_makeOrder_195 : decode cX12_makeOrder 195 = .ok (.iload_n 1, 1) := by decide +kernel
theorem dX12_makeOrder_196 : decode cX12_makeOrder 196 = .ok (.aload_n 0, 1) := by decide +kernel
theorem dX12_makeOrder_197 : decode cX12_makeOrder 197 = .ok (.getfield 200, 3) := by decide +kernel
theorem dX12_makeOrder_200 : decode cX12_makeOrder 200 = .ok (.iastore, 1) := by decide +kernel
theorem dX12_makeOrder_201 : decode cX12_makeOrder 201 = .ok (.aload_n 0, 1) := by decide +kernel
theorem dX12_makeOrder_202 : decode cX12_makeOrder 202 = .ok (.getfield 99, 3) := by decide +kernel
theorem dX12_makeOrder_205 : decode cX12_makeOrder 205 = .ok (.iload_n 1, 1) := by decide +kernel
theorem dX12_makeOrder_206 : decode cX12_makeOrder 206 = .ok (.aload_n 0, 1) := by decide +kernel
theorem dX12_makeOrder_207 : decode cX12_makeOrder 207 = .ok (.getfield 275, 3) := by decide +kernel
theorem dX12_makeOrder_210 : decode cX12_makeOrder 210 = .ok (.iastore, 1) := by decide +kernel
theorem dX12_makeOrder_211 : decode cX12_makeOrder 211 = .ok (.aload_n 0, 1) := by decide +kernel
theorem dX12_makeOrder_212 : decode cX12_makeOrder 212 = .ok (.getfield 105, 3) := by decide +kernel
theorem dX12_makeOrder_215 : decode cX12_makeOrder 215 = .ok (.iload_n 1, 1) := by decide +kernel
theorem dX12_makeOrder_216 : decode cX12_makeOrder 216 = .ok (.aload_n 0, 1) := by decide +kernel
theorem dX12_makeOrder_217 : decode cX12_makeOrder 217 = .ok (.iload_n 2, 1) := by decide +kernel
theorem dX12_makeOrder_218 : decode cX12_makeOrder 218 = .ok (.invokevirtual 308, 3) := by decide +kernel
theorem dX12_makeOrder_221 : decode cX12_makeOrder 221 = .ok (.iload_n 2, 1) := by decide +kernel
theorem dX12_makeOrder_222 : decode cX12_makeOrder 222 = .ok (.isub, 1) := by decide +kernel
theorem dX12_makeOrder_223 : decode cX12_makeOrder 223 = .ok (.iastore, 1) := by decide +kernel
theorem dX12_makeOrder_224 : decode cX12_makeOrder 224 = .ok (.aload_n 0, 1) := by decide +kernel
theorem dX12_makeOrder_225 : decode cX12_makeOrder 225 = .ok (.getfield 102, 3) := by decide +kernel
theorem dX12_makeOrder_228 : decode cX12_makeOrder 228 = .ok (.iload_n 1, 1) := by decide +kernel
theorem dX12_makeOrder_229 : decode cX12_makeOrder 229 = .ok (.aload_n 0, 1) := by decide +kernel
theorem dX12_makeOrder_230 : decode cX12_makeOrder 230 = .ok (.getfield 275, 3) := by decide +kernel
theorem dX12_makeOrder_233 : decode cX12_makeOrder 233 = .ok (.aload_n 0, 1) := by decide +kernel
theorem dX12_makeOrder_234 : decode cX12_makeOrder 234 = .ok (.iload_n 2, 1) := by decide +kernel
theorem dX12_makeOrder_235 : decode cX12_makeOrder 235 = .ok (.invokevirtual 308, 3) := by decide +kernel
theorem dX12_makeOrder_238 : decode cX12_makeOrder 238 = .ok (.isub, 1) := by decide +kernel
theorem dX12_makeOrder_239 : decode cX12_makeOrder 239 = .ok (.iastore, 1) := by decide +kernel
theorem dX12_makeOrder_240 : decode cX12_makeOrder 240 = .ok (.iload_n 1, 1) := by decide +kernel
theorem dX12_makeOrder_241 : decode cX12_makeOrder 241 = .ok (.ireturn, 1) := by decide +kernel
theorem dX12_isDoubt_0 : decode cX12_isDoubt 0 = .ok (.iload_n 1, 1) := by decide +kernel
theorem dX12_isDoubt_1 : decode cX12_isDoubt 1 = .ok (.ifCond .lt 15, 3) := by decide +kernel
theorem dX12_isDoubt_4 : decode cX12_isDoubt 4 = .ok (.iload_n 1, 1) := by decide +kernel
theorem dX12_isDoubt_5 : decode cX12_isDoubt 5 = .ok (.aload_n 0, 1) := by decide +kernel
theorem dX12_isDoubt_6 : decode cX12_isDoubt 6 = .ok (.getfield 320, 3) := by decide +kernel
theorem dX12_isDoubt_9 : decode cX12_isDoubt 9 = .ok (.if_icmp .ge 7, 3) := by decide +kernel
theorem dX12_isDoubt_12 : decode cX12_isDoubt 12 = .ok (.iconst 1, 1) := by decide +kernel
theorem dX12_isDoubt_13 : decode cX12_isDoubt 13 = .ok (.goto 4, 3) := by decide +kernel
theorem dX12_isDoubt_16 : decode cX12_isDoubt 16 = .ok (.iconst 0, 1) := by decide +kernel
theorem dX12_isDoubt_17 : decode cX12_isDoubt 17 = .ok (.ireturn, 1) := by decide +kernel
set_option maxRecDepth 20000 in
theorem glX12_doubt_0 : GoodIn wsX12_doubt ([.fieldLink RX12 165 "PostHouseModel" "thrown" "I", .fieldLink RX12 71 "PostHouseModel" "doubtWaits" "[Z", .fieldLink RX12 75 "PostHouseModel" "doubtMendings" "[I", .fieldLink RX12 78 "PostHouseModel" "doubtLines" "[I", .fieldLink RX12 81 "PostHouseModel" "doubtKnown" "[I", .fieldLink RX12 84 "PostHouseModel" "doubtSum" "[I", .fieldLink RX12 87 "PostHouseModel" "doubtMoney" "[I", .methodLink RX12 330 yX12_isDoubt, .instanceMethod yX12_isDoubt, .selects RX12 yX12_isDoubt yX12_isDoubt, .initialized RX12, .code yX12_isDoubt cX12_isDoubt 2 (some .boolean), .fieldLink RX12 320 "PostHouseModel" "doubts" "I", .methodLink RX12 185 yX12_isIn, .static yX12_isIn, .code yX12_isIn cX12_isIn 3 (some .boolean)]) := goodIn_sub (fun _ h => List.mem_cons_of_mem _ (List.mem_append_left _ (h))) (by decide +kernel)
set_option maxRecDepth 20000 in
theorem glX12_doubt_1 : GoodIn wsX12_doubt (wsX120) := goodIn_sub (fun _ h => List.mem_cons_of_mem _ (List.mem_append_right _ (h))) ag_wsX120
set_option maxRecDepth 20000 in
theorem ggX12_doubt_X12_isDoubt : GoodIn wsX12_doubt wsX12_isDoubt := goodIn_c (glX12_doubt_0 _ (List.mem_of_getElem? (i := 11) rfl)) (goodIn_app (goodIn_c (glX12_doubt_0 _ (List.mem_of_getElem? (i := 12) rfl)) (goodIn_n)) (glX12_doubt_1))
set_option maxRecDepth 20000 in
theorem gX12_doubt_X12_isDoubt : GoodIn wsX12_doubt (wsV RX12 330 RX12 yX12_isDoubt wsX12_isDoubt) := goodIn_app (goodIn_of _ (by decide +kernel)) ggX12_doubt_X12_isDoubt
