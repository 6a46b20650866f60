theorem dX11_mend_40 : decode cX11_mend 40 = .ok (.iconst 0, 1) := qdE3 (by decide +kernel)
theorem dX11_mend_41 : decode cX11_mend 41 = .ok (.istore_n 3, 1) := qdE62 (by decide +kernel)
theorem dX11_mend_42 : decode cX11_mend 42 = .ok (.iload_n 3, 1) := qdE29 (by decide +kernel)
theorem dX11_mend_43 : decode cX11_mend 43 = .ok (.ifCond .eq 16, 3) := qdE153 (by decide +kernel)
theorem dX11_mend_46 : decode cX11_mend 46 = .ok (.aload_n 1, 1) := qdE43 (by decide +kernel)
theorem dX11_mend_47 : decode cX11_mend 47 = .ok (.getfield 459, 3) := qdE180 (by decide +kernel)
theorem dX11_mend_50 : decode cX11_mend 50 = .ok (.aload_n 1, 1) := qdE43 (by decide +kernel)
theorem dX11_mend_51 : decode cX11_mend 51 = .ok (.getfield 462, 3) := qdE180 (by decide +kernel)
theorem dX11_mend_54 : decode cX11_mend 54 = .ok (.aload_n 1, 1) := qdE43 (by decide +kernel)
theorem dX11_mend_55 : decode cX11_mend 55 = .ok (.getfield 465, 3) := qdE180 (by decide +kernel)
theorem dX11_mend_58 : decode cX11_mend 58 = .ok (.iastore, 1) := qdE79 (by decide +kernel)
theorem dX11_mend_59 : decode cX11_mend 59 = .ok (.aload_n 1, 1) := qdE43 (by decide +kernel)
theorem dX11_mend_60 : decode cX11_mend 60 = .ok (.aload_n 0, 1) := qdE42 (by decide +kernel)
theorem dX11_mend_61 : decode cX11_mend 61 = .ok (.aload_n 1, 1) := qdE43 (by decide +kernel)
theorem dX11_mend_62 : decode cX11_mend 62 = .ok (.invokevirtual 468, 3) := qdE182 (by decide +kernel)
theorem dX11_mend_65 : decode cX11_mend 65 = .ok (.putfield 231, 3) := qdE181 (by decide +kernel)
theorem dX11_mend_68 : decode cX11_mend 68 = .ok (.iload_n 2, 1) := qdE28 (by decide +kernel)
theorem dX11_mend_69 : decode cX11_mend 69 = .ok (.ifCond .ne 7, 3) := qdE154 (by decide +kernel)
theorem dX11_mend_72 : decode cX11_mend 72 = .ok (.iload_n 3, 1) := qdE29 (by decide +kernel)
theorem dX11_mend_73 : decode cX11_mend 73 = .ok (.ifCond .eq 7, 3) := qdE153 (by decide +kernel)
theorem dX11_mend_76 : decode cX11_mend 76 = .ok (.iconst 1, 1) := qdE4 (by decide +kernel)
theorem dX11_mend_77 : decode cX11_mend 77 = .ok (.goto 4, 3) := qdE167 (by decide +kernel)
theorem dX11_mend_80 : decode cX11_mend 80 = .ok (.iconst 0, 1) := qdE3 (by decide +kernel)
theorem dX11_mend_81 : decode cX11_mend 81 = .ok (.ireturn, 1) := qdE172 (by decide +kernel)
set_option maxRecDepth 20000 in
theorem glX11_findMendings_0 : GoodIn wsX11_findMendings (wsX11_findMendings_r1) := goodIn_sub (fun _ h => List.mem_cons_of_mem _ (List.mem_append_left _ (List.mem_append_left _ (List.mem_append_left _ (List.mem_append_left _ (List.mem_append_left _ (h))))))) (by decide +kernel)
set_option maxRecDepth 20000 in
theorem glX11_findMendings_1 : GoodIn wsX11_findMendings (wsX11_findMendings_r2) := goodIn_sub (fun _ h => List.mem_cons_of_mem _ (List.mem_append_left _ (List.mem_append_left _ (List.mem_append_left _ (List.mem_append_left _ (List.mem_append_right _ (h))))))) (by decide +kernel)
set_option maxRecDepth 20000 in
theorem glX11_findMendings_2 : GoodIn wsX11_findMendings (wsX20) := goodIn_sub (fun _ h => List.mem_cons_of_mem _ (List.mem_append_left _ (List.mem_append_left _ (List.mem_append_left _ (List.mem_append_right _ (h)))))) ag_wsX20
set_option maxRecDepth 20000 in
theorem glX11_findMendings_3 : GoodIn wsX11_findMendings (wsX110) := goodIn_sub (fun _ h => List.mem_cons_of_mem _ (List.mem_append_left _ (List.mem_append_left _ (List.mem_append_right _ (h))))) ag_wsX110
set_option maxRecDepth 20000 in
theorem glX11_findMendings_4 : GoodIn wsX11_findMendings (wsX00) := goodIn_sub (fun _ h => List.mem_cons_of_mem _ (List.mem_append_left _ (List.mem_append_right _ (h)))) ag_wsX00
set_option maxRecDepth 20000 in
theorem glX11_findMendings_5 : GoodIn wsX11_findMendings (wsX80) := goodIn_sub (fun _ h => List.mem_cons_of_mem _ (List.mem_append_right _ (h))) ag_wsX80
set_option maxRecDepth 20000 in
theorem ggX11_findMendings_X11_totalBut : GoodIn wsX11_findMendings wsX11_totalBut := goodIn_c (glX11_findMendings_0 _ (List.mem_of_getElem? (i := 16) rfl)) (goodIn_app (goodIn_app (goodIn_app (goodIn_app (goodIn_app (goodIn_c (glX11_findMendings_0 _ (List.mem_of_getElem? (i := 0) rfl)) (goodIn_c (glX11_findMendings_0 _ (List.mem_of_getElem? (i := 8) rfl)) (goodIn_c (glX11_findMendings_0 _ (List.mem_of_getElem? (i := 4) rfl)) (goodIn_c (glX11_findMendings_0 _ (List.mem_of_getElem? (i := 5) rfl)) (goodIn_c (glX11_findMendings_0 _ (List.mem_of_getElem? (i := 17) rfl)) (goodIn_c (glX11_findMendings_0 _ (List.mem_of_getElem? (i := 18) rfl)) (goodIn_c (glX11_findMendings_0 _ (List.mem_of_getElem? (i := 19) rfl)) (goodIn_c (glX11_findMendings_0 _ (List.mem_of_getElem? (i := 15) rfl)) (goodIn_c (glX11_findMendings_0 _ (List.mem_of_getElem? (i := 20) rfl)) (goodIn_c (glX11_findMendings_0 _ (List.mem_of_getElem? (i := 1) rfl)) (goodIn_c (glX11_findMendings_0 _ (List.mem_of_getElem? (i := 21) rfl)) (goodIn_c (glX11_findMendings_0 _ (List.mem_of_getElem? (i := 22) rfl)) (goodIn_c (glX11_findMendings_0 _ (List.mem_of_getElem? (i := 23) rfl)) (goodIn_c (glX11_findMendings_1 _ (List.mem_of_getElem? (i := 0) rfl)) (goodIn_c (glX11_findMendings_1 _ (List.mem_of_getElem? (i := 1) rfl)) (goodIn_c (glX11_findMendings_1 _ (List.mem_of_getElem? (i := 2) rfl)) (goodIn_c (glX11_findMendings_1 _ (List.mem_of_getElem? (i := 3) rfl)) (goodIn_c (glX11_findMendings_1 _ (List.mem_of_getElem? (i := 4) rfl)) (goodIn_c (glX11_findMendings_1 _ (List.mem_of_getElem? (i := 5) rfl)) (goodIn_c (glX11_findMendings_1 _ (List.mem_of_getElem? (i := 6) rfl)) (goodIn_c (glX11_findMendings_1 _ (List.mem_of_getElem? (i := 7) rfl)) (goodIn_c (glX11_findMendings_1 _ (List.mem_of_getElem? (i := 8) rfl)) (goodIn_c (glX11_findMendings_1 _ (List.mem_of_getElem? (i := 9) rfl)) (goodIn_c (glX11_findMendings_1 _ (List.mem_of_getElem? (i := 10) rfl)) (goodIn_n))))))))))))))))))))))))) (goodIn_c (glX11_findMendings_1 _ (List.mem_of_getElem? (i := 11) rfl)) (goodIn_c (glX11_findMendings_1 _ (List.mem_of_getElem? (i := 12) rfl)) (goodIn_c (glX11_findMendings_1 _ (List.mem_of_getElem? (i := 13) rfl)) (goodIn_c (glX11_findMendings_1 _ (List.mem_of_getElem? (i := 14) rfl)) (goodIn_c (glX11_findMendings_1 _ (List.mem_of_getElem? (i := 15) rfl)) (goodIn_n))))))) (glX11_findMendings_2)) (glX11_findMendings_3)) (glX11_findMendings_4)) (glX11_findMendings_5))
set_option maxRecDepth 20000 in
theorem gX11_findMendings_X11_totalBut : GoodIn wsX11_findMendings (wsV RX11 452 RX11 yX11_totalBut wsX11_totalBut) := goodIn_app (goodIn_c (glX11_findMendings_0 _ (List.mem_of_getElem? (i := 12) rfl)) (goodIn_c (glX11_findMendings_0 _ (List.mem_of_getElem? (i := 13) rfl)) (goodIn_c (glX11_findMendings_0 _ (List.mem_of_getElem? (i := 14) rfl)) (goodIn_c (glX11_findMendings_0 _ (List.mem_of_getElem? (i := 15) rfl)) (goodIn_n))))) ggX11_findMendings_X11_totalBut
set_option maxRecDepth 20000 in
theorem ggX11_findMendings_X8_moneyOn : GoodIn wsX11_findMendings wsX8_moneyOn := goodIn_c (glX11_findMendings_1 _ (List.mem_of_getElem? (i := 9) rfl)) (goodIn_app (goodIn_c (glX11_findMendings_1 _ (List.mem_of_getElem? (i := 10) rfl)) (goodIn_c (glX11_findMendings_1 _ (List.mem_of_getElem? (i := 11) rfl)) (goodIn_c (glX11_findMendings_1 _ (List.mem_of_getElem? (i := 12) rfl)) (goodIn_c (glX11_findMendings_1 _ (List.mem_of_getElem? (i := 13) rfl)) (goodIn_c (glX11_findMendings_1 _ (List.mem_of_getElem? (i := 14) rfl)) (goodIn_c (glX11_findMendings_0 _ (List.mem_of_getElem? (i := 15) rfl)) (goodIn_c (glX11_findMendings_1 _ (List.mem_of_getElem? (i := 15) rfl)) (goodIn_n)))))))) (glX11_findMendings_5))
set_option maxRecDepth 20000 in
theorem gX11_findMendings_X8_moneyOn : GoodIn wsX11_findMendings (wsV RX11 132 RX8 yX8_moneyOn wsX8_moneyOn) := goodIn_app (goodIn_c (glX11_findMendings_1 _ (List.mem_of_getElem? (i := 5) rfl)) (goodIn_c (glX11_findMendings_1 _ (List.mem_of_getElem? (i := 6) rfl)) (goodIn_c (glX11_findMendings_1 _ (List.mem_of_getElem? (i := 7) rfl)) (goodIn_c (glX11_findMendings_1 _ (List.mem_of_getElem? (i := 8) rfl)) (goodIn_n))))) ggX11_findMendings_X8_moneyOn
set_option maxRecDepth 20000 in
theorem ggX11_findMendings_X11_unlikeDigits : GoodIn wsX11_findMendings wsX11_unlikeDigits := goodIn_c (glX11_findMendings_1 _ (List.mem_of_getElem? (i := 18) rfl)) (goodIn_n)
set_option maxRecDepth 20000 in
theorem gX11_findMendings_X11_unlikeDigits : GoodIn wsX11_findMendings (va_wsS RX11 479 yX11_unlikeDigits wsX11_unlikeDigits) := goodIn_app (goodIn_c (glX11_findMendings_1 _ (List.mem_of_getElem? (i := 16) rfl)) (goodIn_c (glX11_findMendings_1 _ (List.mem_of_getElem? (i := 17) rfl)) (goodIn_c (glX11_findMendings_0 _ (List.mem_of_getElem? (i := 15) rfl)) (goodIn_n)))) ggX11_findMendings_X11_unlikeDigits
theorem dX11_findMendings_0 : decode cX11_findMendings 0 = .ok (.iconst 0, 1) := qdE3 (by decide +kernel)
theorem dX11_findMendings_1 : decode cX11_findMendings 1 = .ok (.istore_n 2, 1) := qdE61 (by decide +kernel)
theorem dX11_findMendings_2 : decode cX11_findMendings 2 = .ok (.iload_n 2, 1) := qdE28 (by decide +kernel)
theorem dX11_findMendings_3 : decode cX11_findMendings 3 = .ok (.aload_n 1, 1) := qdE43 (by decide +kernel)
theorem dX11_findMendings_4 : decode cX11_findMendings 4 = .ok (.getfield 228, 3) := qdE180 (by decide +kernel)
theorem dX11_findMendings_7 : decode cX11_findMendings 7 = .ok (.if_icmp .ge 131, 3) := qdE162 (by decide +kernel)
theorem dX11_findMendings_10 : decode cX11_findMendings 10 = .ok (.aload_n 0, 1) := qdE42 (by decide +kernel)
theorem dX11_findMendings_11 : decode cX11_findMendings 11 = .ok (.aload_n 1, 1) := qdE43 (by decide +kernel)
theorem dX11_findMendings_12 : decode cX11_findMendings 12 = .ok (.iload_n 2, 1) := qdE28 (by decide +kernel)
theorem dX11_findMendings_13 : decode cX11_findMendings 13 = .ok (.invokevirtual 452, 3) := qdE182 (by decide +kernel)
theorem dX11_findMendings_16 : decode cX11_findMendings 16 = .ok (.istore_n 3, 1) := qdE62 (by decide +kernel)
theorem dX11_findMendings_17 : decode cX11_findMendings 17 = .ok (.iconst 0, 1) := qdE3 (by decide +kernel)
theorem dX11_findMendings_18 : decode cX11_findMendings 18 = .ok (.istore 4, 2) := qdE54 (by decide +kernel)
theorem dX11_findMendings_20 : decode cX11_findMendings 20 = .ok (.iload 4, 2) := qdE21 (by decide +kernel)
theorem dX11_findMendings_22 : decode cX11_findMendings 22 = .ok (.aload_n 0, 1) := qdE42 (by decide +kernel)
theorem dX11_findMendings_23 : decode cX11_findMendings 23 = .ok (.getfield 19, 3) := qdE180 (by decide +kernel)
theorem dX11_findMendings_26 : decode cX11_findMendings 26 = .ok (.getfield 104, 3) := qdE180 (by decide +kernel)
theorem dX11_findMendings_29 : decode cX11_findMendings 29 = .ok (.if_icmp .ge 103, 3) := qdE162 (by decide +kernel)
theorem dX11_findMendings_32 : decode cX11_findMendings 32 = .ok (.iload_n 3, 1) := qdE29 (by decide +kernel)
theorem dX11_findMendings_33 : decode cX11_findMendings 33 = .ok (.iconst (-1), 1) := qdE2 (by decide +kernel)
theorem dX11_findMendings_34 : decode cX11_findMendings 34 = .ok (.if_icmp .eq 98, 3) := qdE159 (by decide +kernel)
theorem dX11_findMendings_37 : decode cX11_findMendings 37 = .ok (.aload_n 0, 1) := qdE42 (by decide +kernel)
theorem dX11_findMendings_38 : decode cX11_findMendings 38 = .ok (.getfield 19, 3) := qdE180 (by decide +kernel)
theorem dX11_findMendings_41 : decode cX11_findMendings 41 = .ok (.getfield 471, 3) := qdE180 (by decide +kernel)
theorem dX11_findMendings_44 : decode cX11_findMendings 44 = .ok (.iload 4, 2) := qdE21 (by decide +kernel)
theorem dX11_findMendings_46 : decode cX11_findMendings 46 = .ok (.aaload, 1) := qdE50 (by decide +kernel)
theorem dX11_findMendings_47 : decode cX11_findMendings 47 = .ok (.astore 5, 2) := qdE58 (by decide +kernel)
theorem dX11_findMendings_49 : decode cX11_findMendings 49 = .ok (.aload 5, 2) := qdE25 (by decide +kernel)
theorem dX11_findMendings_51 : decode cX11_findMendings 51 = .ok (.aload_n 0, 1) := qdE42 (by decide +kernel)
theorem dX11_findMendings_52 : decode cX11_findMendings 52 = .ok (.getfield 136, 3) := qdE180 (by decide +kernel)
theorem dX11_findMendings_55 : decode cX11_findMendings 55 = .ok (.invokevirtual 132, 3) := qdE182 (by decide +kernel)
theorem dX11_findMendings_58 : decode cX11_findMendings 58 = .ok (.istore 6, 2) := qdE54 (by decide +kernel)
theorem dX11_findMendings_60 : decode cX11_findMendings 60 = .ok (.iload 6, 2) := qdE21 (by decide +kernel)
theorem dX11_findMendings_62 : decode cX11_findMendings 62 = .ok (.iconst (-1), 1) := qdE2 (by decide +kernel)
theorem dX11_findMendings_63 : decode cX11_findMendings 63 = .ok (.if_icmp .eq 63, 3) := qdE159 (by decide +kernel)
theorem dX11_findMendings_66 : decode cX11_findMendings 66 = .ok (.iload_n 3, 1) := qdE29 (by decide +kernel)
theorem dX11_findMendings_67 : decode cX11_findMendings 67 = .ok (.iload 6, 2) := qdE21 (by decide +kernel)
theorem dX11_findMendings_69 : decode cX11_findMendings 69 = .ok (.aload_n 1, 1) := qdE43 (by decide +kernel)
theorem dX11_findMendings_70 : decode cX11_findMendings 70 = .ok (.getfield 475, 3) := qdE180 (by decide +kernel)
theorem dX11_findMendings_73 : decode cX11_findMendings 73 = .ok (.iload_n 2, 1) := qdE28 (by decide +kernel)
theorem dX11_findMendings_74 : decode cX11_findMendings 74 = .ok (.iaload, 1) := qdE46 (by decide +kernel)
theorem dX11_findMendings_75 : decode cX11_findMendings 75 = .ok (.imul, 1) := qdE104 (by decide +kernel)
theorem dX11_findMendings_76 : decode cX11_findMendings 76 = .ok (.iadd, 1) := qdE96 (by decide +kernel)
theorem dX11_findMendings_77 : decode cX11_findMendings 77 = .ok (.aload_n 1, 1) := qdE43 (by decide +kernel)
theorem dX11_findMendings_78 : decode cX11_findMendings 78 = .ok (.getfield 234, 3) := qdE180 (by decide +kernel)
theorem dX11_findMendings_81 : decode cX11_findMendings 81 = .ok (.if_icmp .ne 45, 3) := qdE160 (by decide +kernel)
theorem dX11_findMendings_84 : decode cX11_findMendings 84 = .ok (.aload 5, 2) := qdE25 (by decide +kernel)
theorem dX11_findMendings_86 : decode cX11_findMendings 86 = .ok (.getfield 477, 3) := qdE180 (by decide +kernel)
theorem dX11_findMendings_89 : decode cX11_findMendings 89 = .ok (.aload_n 1, 1) := qdE43 (by decide +kernel)
theorem dX11_findMendings_90 : decode cX11_findMendings 90 = .ok (.getfield 459, 3) := qdE180 (by decide +kernel)
theorem dX11_findMendings_93 : decode cX11_findMendings 93 = .ok (.iload_n 2, 1) := qdE28 (by decide +kernel)
theorem dX11_findMendings_94 : decode cX11_findMendings 94 = .ok (.iaload, 1) := qdE46 (by decide +kernel)
theorem dX11_findMendings_95 : decode cX11_findMendings 95 = .ok (.invokestatic 479, 3) := qdE184 (by decide +kernel)
theorem dX11_findMendings_98 : decode cX11_findMendings 98 = .ok (.iconst 1, 1) := qdE4 (by decide +kernel)
theorem dX11_findMendings_99 : decode cX11_findMendings 99 = .ok (.if_icmp .ne 27, 3) := qdE160 (by decide +kernel)
theorem dX11_findMendings_102 : decode cX11_findMendings 102 = .ok (.aload_n 1, 1) := qdE43 (by decide +kernel)
theorem dX11_findMendings_103 : decode cX11_findMendings 103 = .ok (.dup, 1) := qdE89 (by decide +kernel)
theorem dX11_findMendings_104 : decode cX11_findMendings 104 = .ok (.getfield 201, 3) := qdE180 (by decide +kernel)
theorem dX11_findMendings_107 : decode cX11_findMendings 107 = .ok (.iconst 1, 1) := qdE4 (by decide +kernel)
theorem dX11_findMendings_108 : decode cX11_findMendings 108 = .ok (.iadd, 1) := qdE96 (by decide +kernel)
theorem dX11_findMendings_109 : decode cX11_findMendings 109 = .ok (.putfield 201, 3) := qdE181 (by decide +kernel)
theorem dX11_findMendings_112 : decode cX11_findMendings 112 = .ok (.aload_n 1, 1) := qdE43 (by decide +kernel)
theorem dX11_findMendings_113 : decode cX11_findMendings 113 = .ok (.iload_n 2, 1) := qdE28 (by decide +kernel)
theorem dX11_findMendings_114 : decode cX11_findMendings 114 = .ok (.putfield 462, 3) := qdE181 (by decide +kernel)
theorem dX11_findMendings_117 : decode cX11_findMendings 117 = .ok (.aload_n 1, 1) := qdE43 (by decide +kernel)
theorem dX11_findMendings_118 : decode cX11_findMendings 118 = .ok (.aload 5, 2) := qdE25 (by decide +kernel)
theorem dX11_findMendings_120 : decode cX11_findMendings 120 = .ok (.getfield 477, 3) := qdE180 (by decide +kernel)
theorem dX11_findMendings_123 : decode cX11_findMendings 123 = .ok (.putfield 465, 3) := qdE181 (by decide +kernel)
theorem dX11_findMendings_126 : decode cX11_findMendings 126 = .ok (.iinc 4 1, 3) := qdE132 (by decide +kernel)
theorem dX11_findMendings_129 : decode cX11_findMendings 129 = .ok (.goto (-109), 3) := qdE167 (by decide +kernel)
theorem dX11_findMendings_132 : decode cX11_findMendings 132 = .ok (.iinc 2 1, 3) := qdE132 (by decide +kernel)
theorem dX11_findMendings_135 : decode cX11_findMendings 135 = .ok (.goto (-133), 3) := qdE167 (by decide +kernel)
theorem dX11_findMendings_138 : decode cX11_findMendings 138 = .ok (.return_, 1) := qdE177 (by decide +kernel)
theorem dX11_unlikeDigits_0 : decode cX11_unlikeDigits 0 = .ok (.iconst 0, 1) := qdE3 (by decide +kernel)
theorem dX11_unlikeDigits_1 : decode cX11_unlikeDigits 1 = .ok (.istore_n 2, 1) := qdE61 (by decide +kernel)
theorem dX11_unlikeDigits_2 : decode cX11_unlikeDigits 2 = .ok (.iconst 1, 1) := qdE4 (by decide +kernel)
theorem dX11_unlikeDigits_3 : decode cX11_unlikeDigits 3 = .ok (.istore_n 3, 1) := qdE62 (by decide +kernel)
theorem dX11_unlikeDigits_4 : decode cX11_unlikeDigits 4 = .ok (.iload_n 3, 1) := qdE29 (by decide +kernel)
theorem dX11_unlikeDigits_5 : decode cX11_unlikeDigits 5 = .ok (.sipush 9999, 3) := qdE17 (by decide +kernel)
theorem dX11_unlikeDigits_8 : decode cX11_unlikeDigits 8 = .ok (.if_icmp .gt 29, 3) := qdE163 (by decide +kernel)
theorem dX11_unlikeDigits_11 : decode cX11_unlikeDigits 11 = .ok (.iload_n 0, 1) := qdE26 (by decide +kernel)
theorem dX11_unlikeDigits_12 : decode cX11_unlikeDigits 12 = .ok (.iload_n 3, 1) := qdE29 (by decide +kernel)
theorem dX11_unlikeDigits_13 : decode cX11_unlikeDigits 13 = .ok (.idiv, 1) := qdE108 (by decide +kernel)
theorem dX11_unlikeDigits_14 : decode cX11_unlikeDigits 14 = .ok (.bipush 10, 2) := qdE16 (by decide +kernel)
theorem dX11_unlikeDigits_16 : decode cX11_unlikeDigits 16 = .ok (.irem, 1) := qdE112 (by decide +kernel)
theorem dX11_unlikeDigits_17 : decode cX11_unlikeDigits 17 = .ok (.iload_n 1, 1) := qdE27 (by decide +kernel)
theorem dX11_unlikeDigits_18 : decode cX11_unlikeDigits 18 = .ok (.iload_n 3, 1) := qdE29 (by decide +kernel)
theorem dX11_unlikeDigits_19 : decode cX11_unlikeDigits 19 = .ok (.idiv, 1) := qdE108 (by decide +kernel)
theorem dX11_unlikeDigits_20 : decode cX11_unlikeDigits 20 = .ok (.bipush 10, 2) := qdE16 (by decide +kernel)
theorem dX11_unlikeDigits_22 : decode cX11_unlikeDigits 22 = .ok (.irem, 1) := qdE112 (by decide +kernel)
theorem dX11_unlikeDigits_23 : decode cX11_unlikeDigits 23 = .ok (.if_icmp .eq 6, 3) := qdE159 (by decide +kernel)
theorem dX11_unlikeDigits_26 : decode cX11_unlikeDigits 26 = .ok (.iinc 2 1, 3) := qdE132 (by decide +kernel)
theorem dX11_unlikeDigits_29 : decode cX11_unlikeDigits 29 = .ok (.iload_n 3, 1) := qdE29 (by decide +kernel)
theorem dX11_unlikeDigits_30 : decode cX11_unlikeDigits 30 = .ok (.bipush 10, 2) := qdE16 (by decide +kernel)
theorem dX11_unlikeDigits_32 : decode cX11_unlikeDigits 32 = .ok (.imul, 1) := qdE104 (by decide +kernel)
theorem dX11_unlikeDigits_33 : decode cX11_unlikeDigits 33 = .ok (.istore_n 3, 1) := qdE62 (by decide +kernel)
theorem dX11_unlikeDigits_34 : decode cX11_unlikeDigits 34 = .ok (.goto (-30), 3) := qdE167 (by decide +kernel)
theorem dX11_unlikeDigits_37 : decode cX11_unlikeDigits 37 = .ok (.iload_n 2, 1) := qdE28 (by decide +kernel)
theorem dX11_unlikeDigits_38 : decode cX11_unlikeDigits 38 = .ok (.ireturn, 1) := qdE172 (by decide +kernel)
set_option maxRecDepth 20000 in
theorem glX11_soldToday_0 : GoodIn wsX11_soldToday ([Cond.fieldLink RX11 19 "PostHouse" "book" "LPostHouse$Book;", Cond.fieldLink RX11 136 "PostHouse" "today" "I", Cond.methodLink RX11 98 yX0_ofCode, Cond.instanceMethod yX0_ofCode, Cond.selects RX0 yX0_ofCode yX0_ofCode, Cond.initialized RX0, Cond.code yX0_ofCode cX0_ofCode 3 (some (.object "PostHouse$Thing")), Cond.fieldLink RX0 17 "PostHouse$Book" "size" "I", Cond.fieldLink RX0 11 "PostHouse$Book" "things" "[LPostHouse$Thing;", Cond.fieldLink RX0 28 "PostHouse$Thing" "code" "I", Cond.methodLink RX11 132 yX8_moneyOn, Cond.instanceMethod yX8_moneyOn, Cond.selects RX8 yX8_moneyOn yX8_moneyOn, Cond.initialized RX8, Cond.code yX8_moneyOn cX8_moneyOn 3 (some .int), Cond.fieldLink RX8 37 "PostHouse$Thing" "prices" "I", Cond.fieldLink RX8 15 "PostHouse$Thing" "froms" "[I", Cond.fieldLink RX8 18 "PostHouse$Thing" "tos" "[I", Cond.fieldLink RX8 9 "PostHouse$Thing" "moneys" "[I", Cond.static yX11_within, Cond.initialized RX11, Cond.code yX11_within cX11_within 3 (some .boolean)]) := goodIn_sub (fun _ h => List.mem_cons_of_mem _ (List.mem_append_left _ (List.mem_append_left _ (List.mem_append_left _ (h))))) (by decide +kernel)
set_option maxRecDepth 20000 in
theorem glX11_soldToday_2 : GoodIn wsX11_soldToday (wsX00) := goodIn_sub (fun _ h => List.mem_cons_of_mem _ (List.mem_append_left _ (List.mem_append_right _ (h)))) ag_wsX00
set_option maxRecDepth 20000 in
theorem glX11_soldToday_3 : GoodIn wsX11_soldToday (wsX80) := goodIn_sub (fun _ h => List.mem_cons_of_mem _ (List.mem_append_right _ (h))) ag_wsX80
set_option maxRecDepth 20000 in
theorem ggX11_soldToday_X0_ofCode : GoodIn wsX11_soldToday wsX0_ofCode := goodIn_c (glX11_soldToday_0 _ (List.mem_of_getElem? (i := 6) rfl)) (goodIn_app (goodIn_app (goodIn_c (glX11_soldToday_0 _ (List.mem_of_getElem? (i := 7) rfl)) (goodIn_c (glX11_soldToday_0 _ (List.mem_of_getElem? (i := 8) rfl)) (goodIn_c (glX11_soldToday_0 _ (List.mem_of_getElem? (i := 9) rfl)) (goodIn_n)))) (glX11_soldToday_2)) (glX11_soldToday_3))
set_option maxRecDepth 20000 in
theorem gX11_soldToday_X0_ofCode : GoodIn wsX11_soldToday (wsV RX11 98 RX0 yX0_ofCode wsX0_ofCode) := goodIn_app (goodIn_c (glX11_soldToday_0 _ (List.mem_of_getElem? (i := 2) rfl)) (goodIn_c (glX11_soldToday_0 _ (List.mem_of_getElem? (i := 3) rfl)) (goodIn_c (glX11_soldToday_0 _ (List.mem_of_getElem? (i := 4) rfl)) (goodIn_c (glX11_soldToday_0 _ (List.mem_of_getElem? (i := 5) rfl)) (goodIn_n))))) ggX11_soldToday_X0_ofCode
set_option maxRecDepth 20000 in
theorem ggX11_soldToday_X8_moneyOn : GoodIn wsX11_soldToday wsX8_moneyOn := goodIn_c (glX11_soldToday_0 _ (List.mem_of_getElem? (i := 14) rfl)) (goodIn_app (goodIn_c (glX11_soldToday_0 _ (List.mem_of_getElem? (i := 15) rfl)) (goodIn_c (glX11_soldToday_0 _ (List.mem_of_getElem? (i := 16) rfl)) (goodIn_c (glX11_soldToday_0 _ (List.mem_of_getElem? (i := 17) rfl)) (goodIn_c (glX11_soldToday_0 _ (List.mem_of_getElem? (i := 18) rfl)) (goodIn_c (glX11_soldToday_0 _ (List.mem_of_getElem? (i := 19) rfl)) (goodIn_c (glX11_soldToday_0 _ (List.mem_of_getElem? (i := 20) rfl)) (goodIn_c (glX11_soldToday_0 _ (List.mem_of_getElem? (i := 21) rfl)) (goodIn_n)))))))) (glX11_soldToday_3))
set_option maxRecDepth 20000 in
theorem gX11_soldToday_X8_moneyOn : GoodIn wsX11_soldToday (wsV RX11 132 RX8 yX8_moneyOn wsX8_moneyOn) := goodIn_app (goodIn_c (glX11_soldToday_0 _ (List.mem_of_getElem? (i := 10) rfl)) (goodIn_c (glX11_soldToday_0 _ (List.mem_of_getElem? (i := 11) rfl)) (goodIn_c (glX11_soldToday_0 _ (List.mem_of_getElem? (i := 12) rfl)) (goodIn_c (glX11_soldToday_0 _ (List.mem_of_getElem? (i := 13) rfl)) (goodIn_n))))) ggX11_soldToday_X8_moneyOn
theorem dX11_soldToday_0 : decode cX11_soldToday 0 = .ok (.aload_n 0, 1) := qdE42 (by decide +kernel)
theorem dX11_soldToday_1 : decode cX11_soldToday 1 = .ok (.getfield 19, 3) := qdE180 (by decide +kernel)
theorem dX11_soldToday_4 : decode cX11_soldToday 4 = .ok (.iload_n 1, 1) := qdE27 (by decide +kernel)
theorem dX11_soldToday_5 : decode cX11_soldToday 5 = .ok (.invokevirtual 98, 3) := qdE182 (by decide +kernel)
theorem dX11_soldToday_8 : decode cX11_soldToday 8 = .ok (.astore_n 2, 1) := qdE77 (by decide +kernel)
theorem dX11_soldToday_9 : decode cX11_soldToday 9 = .ok (.aload_n 2, 1) := qdE44 (by decide +kernel)
theorem dX11_soldToday_10 : decode cX11_soldToday 10 = .ok (.ifnull 15, 3) := qdE198 (by decide +kernel)
theorem dX11_soldToday_13 : decode cX11_soldToday 13 = .ok (.aload_n 2, 1) := qdE44 (by decide +kernel)
theorem dX11_soldToday_14 : decode cX11_soldToday 14 = .ok (.aload_n 0, 1) := qdE42 (by decide +kernel)
theorem dX11_soldToday_15 : decode cX11_soldToday 15 = .ok (.getfield 136, 3) := qdE180 (by decide +kernel)
theorem dX11_soldToday_18 : decode cX11_soldToday 18 = .ok (.invokevirtual 132, 3) := qdE182 (by decide +kernel)
theorem dX11_soldToday_21 : decode cX11_soldToday 21 = .ok (.iconst (-1), 1) := qdE2 (by decide +kernel)
theorem dX11_soldToday_22 : decode cX11_soldToday 22 = .ok (.if_icmp .ne 7, 3) := qdE160 (by decide +kernel)
theorem dX11_soldToday_25 : decode cX11_soldToday 25 = .ok (.aconst_null, 1) := qdE1 (by decide +kernel)
theorem dX11_soldToday_26 : decode cX11_soldToday 26 = .ok (.goto 4, 3) := qdE167 (by decide +kernel)
theorem dX11_soldToday_29 : decode cX11_soldToday 29 = .ok (.aload_n 2, 1) := qdE44 (by decide +kernel)
theorem dX11_soldToday_30 : decode cX11_soldToday 30 = .ok (.areturn, 1) := qdE176 (by decide +kernel)
set_option maxRecDepth 20000 in
theorem glX11_totalBut_0 : GoodIn wsX11_totalBut (wsX11_totalBut_r1) := goodIn_sub (fun _ h => List.mem_cons_of_mem _ (List.mem_append_left _ (List.mem_append_left _ (List.mem_append_left _ (List.mem_append_left _ (List.mem_append_left _ (h))))))) (by decide +kernel)
set_option maxRecDepth 20000 in
theorem glX11_totalBut_1 : GoodIn wsX11_totalBut (wsX11_totalBut_r2) := goodIn_sub (fun _ h => List.mem_cons_of_mem _ (List.mem_append_left _ (List.mem_append_left _ (List.mem_append_left _ (List.mem_append_left _ (List.mem_append_right _ (h))))))) (by decide +kernel)
set_option maxRecDepth 20000 in
theorem glX11_totalBut_3 : GoodIn wsX11_totalBut (wsX110) := goodIn_sub (fun _ h => List.mem_cons_of_mem _ (List.mem_append_left _ (List.mem_append_left _ (List.mem_append_right _ (h))))) ag_wsX110
set_option maxRecDepth 20000 in
theorem glX11_totalBut_4 : GoodIn wsX11_totalBut (wsX00) := goodIn_sub (fun _ h => List.mem_cons_of_mem _ (List.mem_append_left _ (List.mem_append_right _ (h)))) ag_wsX00
set_option maxRecDepth 20000 in
theorem glX11_totalBut_5 : GoodIn wsX11_totalBut (wsX80) := goodIn_sub (fun _ h => List.mem_cons_of_mem _ (List.mem_append_right _ (h))) ag_wsX80
set_option maxRecDepth 20000 in
theorem ggX11_totalBut_X11_soldToday : GoodIn wsX11_totalBut wsX11_soldToday := goodIn_c (glX11_totalBut_0 _ (List.mem_of_getElem? (i := 8) rfl)) (goodIn_app (goodIn_app (goodIn_app (goodIn_c (glX11_totalBut_0 _ (List.mem_of_getElem? (i := 9) rfl)) (goodIn_c (glX11_totalBut_0 _ (List.mem_of_getElem? (i := 2) rfl)) (goodIn_c (glX11_totalBut_0 _ (List.mem_of_getElem? (i := 10) rfl)) (goodIn_c (glX11_totalBut_0 _ (List.mem_of_getElem? (i := 11) rfl)) (goodIn_c (glX11_totalBut_0 _ (List.mem_of_getElem? (i := 12) rfl)) (goodIn_c (glX11_totalBut_0 _ (List.mem_of_getElem? (i := 13) rfl)) (goodIn_c (glX11_totalBut_0 _ (List.mem_of_getElem? (i := 14) rfl)) (goodIn_c (glX11_totalBut_0 _ (List.mem_of_getElem? (i := 15) rfl)) (goodIn_c (glX11_totalBut_0 _ (List.mem_of_getElem? (i := 16) rfl)) (goodIn_c (glX11_totalBut_0 _ (List.mem_of_getElem? (i := 17) rfl)) (goodIn_c (glX11_totalBut_0 _ (List.mem_of_getElem? (i := 18) rfl)) (goodIn_c (glX11_totalBut_0 _ (List.mem_of_getElem? (i := 19) rfl)) (goodIn_c (glX11_totalBut_0 _ (List.mem_of_getElem? (i := 20) rfl)) (goodIn_c (glX11_totalBut_0 _ (List.mem_of_getElem? (i := 21) rfl)) (goodIn_c (glX11_totalBut_0 _ (List.mem_of_getElem? (i := 22) rfl)) (goodIn_c (glX11_totalBut_0 _ (List.mem_of_getElem? (i := 23) rfl)) (goodIn_c (glX11_totalBut_1 _ (List.mem_of_getElem? (i := 0) rfl)) (goodIn_c (glX11_totalBut_1 _ (List.mem_of_getElem? (i := 1) rfl)) (goodIn_c (glX11_totalBut_1 _ (List.mem_of_getElem? (i := 2) rfl)) (goodIn_c (glX11_totalBut_1 _ (List.mem_of_getElem? (i := 3) rfl)) (goodIn_c (glX11_totalBut_0 _ (List.mem_of_getElem? (i := 7) rfl)) (goodIn_c (glX11_totalBut_1 _ (List.mem_of_getElem? (i := 4) rfl)) (goodIn_n))))))))))))))))))))))) (glX11_totalBut_3)) (glX11_totalBut_4)) (glX11_totalBut_5))
set_option maxRecDepth 20000 in
theorem gX11_totalBut_X11_soldToday : GoodIn wsX11_totalBut (wsV RX11 482 RX11 yX11_soldToday wsX11_soldToday) := goodIn_app (goodIn_c (glX11_totalBut_0 _ (List.mem_of_getElem? (i := 4) rfl)) (goodIn_c (glX11_totalBut_0 _ (List.mem_of_getElem? (i := 5) rfl)) (goodIn_c (glX11_totalBut_0 _ (List.mem_of_getElem? (i := 6) rfl)) (goodIn_c (glX11_totalBut_0 _ (List.mem_of_getElem? (i := 7) rfl)) (goodIn_n))))) ggX11_totalBut_X11_soldToday
set_option maxRecDepth 20000 in
theorem ggX11_totalBut_X8_moneyOn : GoodIn wsX11_totalBut wsX8_moneyOn := goodIn_c (glX11_totalBut_0 _ (List.mem_of_getElem? (i := 22) rfl)) (goodIn_app (goodIn_c (glX11_totalBut_0 _ (List.mem_of_getElem? (i := 23) rfl)) (goodIn_c (glX11_totalBut_1 _ (List.mem_of_getElem? (i := 0) rfl)) (goodIn_c (glX11_totalBut_1 _ (List.mem_of_getElem? (i := 1) rfl)) (goodIn_c (glX11_totalBut_1 _ (List.mem_of_getElem? (i := 2) rfl)) (goodIn_c (glX11_totalBut_1 _ (List.mem_of_getElem? (i := 3) rfl)) (goodIn_c (glX11_totalBut_0 _ (List.mem_of_getElem? (i := 7) rfl)) (goodIn_c (glX11_totalBut_1 _ (List.mem_of_getElem? (i := 4) rfl)) (goodIn_n)))))))) (glX11_totalBut_5))
set_option maxRecDepth 20000 in
theorem gX11_totalBut_X8_moneyOn : GoodIn wsX11_totalBut (wsV RX11 132 RX8 yX8_moneyOn wsX8_moneyOn) := goodIn_app (goodIn_c (glX11_totalBut_0 _ (List.mem_of_getElem? (i := 18) rfl)) (goodIn_c (glX11_totalBut_0 _ (List.mem_of_getElem? (i := 19) rfl)) (goodIn_c (glX11_totalBut_0 _ (List.mem_of_getElem? (i := 20) rfl)) (goodIn_c (glX11_totalBut_0 _ (List.mem_of_getElem? (i := 21) rfl)) (goodIn_n))))) ggX11_totalBut_X8_moneyOn
theorem dX11_totalBut_0 : decode cX11_totalBut 0 = .ok (.iconst 0, 1) := qdE3 (by decide +kernel)
theorem dX11_totalBut_1 : decode cX11_totalBut 1 = .ok (.istore_n 3, 1) := qdE62 (by decide +kernel)
theorem dX11_totalBut_2 : decode cX11_totalBut 2 = .ok (.iconst 0, 1) := qdE3 (by decide +kernel)
theorem dX11_totalBut_3 : decode cX11_totalBut 3 = .ok (.istore 4, 2) := qdE54 (by decide +kernel)
theorem dX11_totalBut_5 : decode cX11_totalBut 5 = .ok (.iload 4, 2) := qdE21 (by decide +kernel)
theorem dX11_totalBut_7 : decode cX11_totalBut 7 = .ok (.aload_n 1, 1) := qdE43 (by decide +kernel)
theorem dX11_totalBut_8 : decode cX11_totalBut 8 = .ok (.getfield 228, 3) := qdE180 (by decide +kernel)
theorem dX11_totalBut_11 : decode cX11_totalBut 11 = .ok (.if_icmp .ge 55, 3) := qdE162 (by decide +kernel)
theorem dX11_totalBut_14 : decode cX11_totalBut 14 = .ok (.iload 4, 2) := qdE21 (by decide +kernel)
theorem dX11_totalBut_16 : decode cX11_totalBut 16 = .ok (.iload_n 2, 1) := qdE28 (by decide +kernel)
theorem dX11_totalBut_17 : decode cX11_totalBut 17 = .ok (.if_icmp .eq 43, 3) := qdE159 (by decide +kernel)
theorem dX11_totalBut_20 : decode cX11_totalBut 20 = .ok (.aload_n 0, 1) := qdE42 (by decide +kernel)
theorem dX11_totalBut_21 : decode cX11_totalBut 21 = .ok (.aload_n 1, 1) := qdE43 (by decide +kernel)
theorem dX11_totalBut_22 : decode cX11_totalBut 22 = .ok (.getfield 459, 3) := qdE180 (by decide +kernel)
theorem dX11_totalBut_25 : decode cX11_totalBut 25 = .ok (.iload 4, 2) := qdE21 (by decide +kernel)
theorem dX11_totalBut_27 : decode cX11_totalBut 27 = .ok (.iaload, 1) := qdE46 (by decide +kernel)
theorem dX11_totalBut_28 : decode cX11_totalBut 28 = .ok (.invokevirtual 482, 3) := qdE182 (by decide +kernel)
theorem dX11_totalBut_31 : decode cX11_totalBut 31 = .ok (.astore 5, 2) := qdE58 (by decide +kernel)
theorem dX11_totalBut_33 : decode cX11_totalBut 33 = .ok (.aload 5, 2) := qdE25 (by decide +kernel)
theorem dX11_totalBut_35 : decode cX11_totalBut 35 = .ok (.ifnonnull 5, 3) := qdE199 (by decide +kernel)
theorem dX11_totalBut_38 : decode cX11_totalBut 38 = .ok (.iconst (-1), 1) := qdE2 (by decide +kernel)
theorem dX11_totalBut_39 : decode cX11_totalBut 39 = .ok (.ireturn, 1) := qdE172 (by decide +kernel)
theorem dX11_totalBut_40 : decode cX11_totalBut 40 = .ok (.iload_n 3, 1) := qdE29 (by decide +kernel)
theorem dX11_totalBut_41 : decode cX11_totalBut 41 = .ok (.aload 5, 2) := qdE25 (by decide +kernel)
theorem dX11_totalBut_43 : decode cX11_totalBut 43 = .ok (.aload_n 0, 1) := qdE42 (by decide +kernel)
theorem dX11_totalBut_44 : decode cX11_totalBut 44 = .ok (.getfield 136, 3) := qdE180 (by decide +kernel)
theorem dX11_totalBut_47 : decode cX11_totalBut 47 = .ok (.invokevirtual 132, 3) := qdE182 (by decide +kernel)
theorem dX11_totalBut_50 : decode cX11_totalBut 50 = .ok (.aload_n 1, 1) := qdE43 (by decide +kernel)
theorem dX11_totalBut_51 : decode cX11_totalBut 51 = .ok (.getfield 475, 3) := qdE180 (by decide +kernel)
theorem dX11_totalBut_54 : decode cX11_totalBut 54 = .ok (.iload 4, 2) := qdE21 (by decide +kernel)
theorem dX11_totalBut_56 : decode cX11_totalBut 56 = .ok (.iaload, 1) := qdE46 (by decide +kernel)
theorem dX11_totalBut_57 : decode cX11_totalBut 57 = .ok (.imul, 1) := qdE104 (by decide +kernel)
theorem dX11_totalBut_58 : decode cX11_totalBut 58 = .ok (.iadd, 1) := qdE96 (by decide +kernel)
theorem dX11_totalBut_59 : decode cX11_totalBut 59 = .ok (.istore_n 3, 1) := qdE62 (by decide +kernel)
theorem dX11_totalBut_60 : decode cX11_totalBut 60 = .ok (.iinc 4 1, 3) := qdE132 (by decide +kernel)
theorem dX11_totalBut_63 : decode cX11_totalBut 63 = .ok (.goto (-58), 3) := qdE167 (by decide +kernel)
theorem dX11_totalBut_66 : decode cX11_totalBut 66 = .ok (.iload_n 3, 1) := qdE29 (by decide +kernel)
theorem dX11_totalBut_67 : decode cX11_totalBut 67 = .ok (.ireturn, 1) := qdE172 (by decide +kernel)
set_option maxRecDepth 20000 in
theorem glX11_knownLines_0 : GoodIn wsX11_knownLines (wsX11_knownLines_r1) := goodIn_sub (fun _ h => List.mem_cons_of_mem _ (List.mem_append_left _ (List.mem_append_left _ (List.mem_append_left _ (List.mem_append_left _ (List.mem_append_left _ (h))))))) (by decide +kernel)
set_option maxRecDepth 20000 in
theorem glX11_knownLines_1 : GoodIn wsX11_knownLines (wsX11_knownLines_r2) := goodIn_sub (fun _ h => List.mem_cons_of_mem _ (List.mem_append_left _ (List.mem_append_left _ (List.mem_append_left _ (List.mem_append_left _ (List.mem_append_right _ (h))))))) (by decide +kernel)
set_option maxRecDepth 20000 in
theorem glX11_knownLines_3 : GoodIn wsX11_knownLines (wsX110) := goodIn_sub (fun _ h => List.mem_cons_of_mem _ (List.mem_append_left _ (List.mem_append_left _ (List.mem_append_right _ (h))))) ag_wsX110
set_option maxRecDepth 20000 in
theorem glX11_knownLines_4 : GoodIn wsX11_knownLines (wsX00) := goodIn_sub (fun _ h => List.mem_cons_of_mem _ (List.mem_append_left _ (List.mem_append_right _ (h)))) ag_wsX00
set_option maxRecDepth 20000 in
theorem glX11_knownLines_5 : GoodIn wsX11_knownLines (wsX80) := goodIn_sub (fun _ h => List.mem_cons_of_mem _ (List.mem_append_right _ (h))) ag_wsX80
set_option maxRecDepth 20000 in
theorem ggX11_knownLines_X11_soldToday : GoodIn wsX11_knownLines wsX11_soldToday := goodIn_c (glX11_knownLines_0 _ (List.mem_of_getElem? (i := 6) rfl)) (goodIn_app (goodIn_app (goodIn_app (goodIn_c (glX11_knownLines_0 _ (List.mem_of_getElem? (i := 7) rfl)) (goodIn_c (glX11_knownLines_0 _ (List.mem_of_getElem? (i := 8) rfl)) (goodIn_c (glX11_knownLines_0 _ (List.mem_of_getElem? (i := 9) rfl)) (goodIn_c (glX11_knownLines_0 _ (List.mem_of_getElem? (i := 10) rfl)) (goodIn_c (glX11_knownLines_0 _ (List.mem_of_getElem? (i := 11) rfl)) (goodIn_c (glX11_knownLines_0 _ (List.mem_of_getElem? (i := 12) rfl)) (goodIn_c (glX11_knownLines_0 _ (List.mem_of_getElem? (i := 13) rfl)) (goodIn_c (glX11_knownLines_0 _ (List.mem_of_getElem? (i := 14) rfl)) (goodIn_c (glX11_knownLines_0 _ (List.mem_of_getElem? (i := 15) rfl)) (goodIn_c (glX11_knownLines_0 _ (List.mem_of_getElem? (i := 16) rfl)) (goodIn_c (glX11_knownLines_0 _ (List.mem_of_getElem? (i := 17) rfl)) (goodIn_c (glX11_knownLines_0 _ (List.mem_of_getElem? (i := 18) rfl)) (goodIn_c (glX11_knownLines_0 _ (List.mem_of_getElem? (i := 19) rfl)) (goodIn_c (glX11_knownLines_0 _ (List.mem_of_getElem? (i := 20) rfl)) (goodIn_c (glX11_knownLines_0 _ (List.mem_of_getElem? (i := 21) rfl)) (goodIn_c (glX11_knownLines_0 _ (List.mem_of_getElem? (i := 22) rfl)) (goodIn_c (glX11_knownLines_0 _ (List.mem_of_getElem? (i := 23) rfl)) (goodIn_c (glX11_knownLines_1 _ (List.mem_of_getElem? (i := 0) rfl)) (goodIn_c (glX11_knownLines_1 _ (List.mem_of_getElem? (i := 1) rfl)) (goodIn_c (glX11_knownLines_1 _ (List.mem_of_getElem? (i := 2) rfl)) (goodIn_c (glX11_knownLines_0 _ (List.mem_of_getElem? (i := 5) rfl)) (goodIn_c (glX11_knownLines_1 _ (List.mem_of_getElem? (i := 3) rfl)) (goodIn_n))))))))))))))))))))))) (glX11_knownLines_3)) (glX11_knownLines_4)) (glX11_knownLines_5))
set_option maxRecDepth 20000 in
theorem gX11_knownLines_X11_soldToday : GoodIn wsX11_knownLines (wsV RX11 482 RX11 yX11_soldToday wsX11_soldToday) := goodIn_app (goodIn_c (glX11_knownLines_0 _ (List.mem_of_getElem? (i := 2) rfl)) (goodIn_c (glX11_knownLines_0 _ (List.mem_of_getElem? (i := 3) rfl)) (goodIn_c (glX11_knownLines_0 _ (List.mem_of_getElem? (i := 4) rfl)) (goodIn_c (glX11_knownLines_0 _ (List.mem_of_getElem? (i := 5) rfl)) (goodIn_n))))) ggX11_knownLines_X11_soldToday
theorem dX11_knownLines_0 : decode cX11_knownLines 0 = .ok (.iconst 0, 1) := qdE3 (by decide +kernel)
theorem dX11_knownLines_1 : decode cX11_knownLines 1 = .ok (.istore_n 2, 1) := qdE61 (by decide +kernel)
theorem dX11_knownLines_2 : decode cX11_knownLines 2 = .ok (.iconst 0, 1) := qdE3 (by decide +kernel)
theorem dX11_knownLines_3 : decode cX11_knownLines 3 = .ok (.istore_n 3, 1) := qdE62 (by decide +kernel)
theorem dX11_knownLines_4 : decode cX11_knownLines 4 = .ok (.iload_n 3, 1) := qdE29 (by decide +kernel)
theorem dX11_knownLines_5 : decode cX11_knownLines 5 = .ok (.aload_n 1, 1) := qdE43 (by decide +kernel)
theorem dX11_knownLines_6 : decode cX11_knownLines 6 = .ok (.getfield 228, 3) := qdE180 (by decide +kernel)
theorem dX11_knownLines_9 : decode cX11_knownLines 9 = .ok (.if_icmp .ge 25, 3) := qdE162 (by decide +kernel)
theorem dX11_knownLines_12 : decode cX11_knownLines 12 = .ok (.aload_n 0, 1) := qdE42 (by decide +kernel)
theorem dX11_knownLines_13 : decode cX11_knownLines 13 = .ok (.aload_n 1, 1) := qdE43 (by decide +kernel)
theorem dX11_knownLines_14 : decode cX11_knownLines 14 = .ok (.getfield 459, 3) := qdE180 (by decide +kernel)
theorem dX11_knownLines_17 : decode cX11_knownLines 17 = .ok (.iload_n 3, 1) := qdE29 (by decide +kernel)
theorem dX11_knownLines_18 : decode cX11_knownLines 18 = .ok (.iaload, 1) := qdE46 (by decide +kernel)
theorem dX11_knownLines_19 : decode cX11_knownLines 19 = .ok (.invokevirtual 482, 3) := qdE182 (by decide +kernel)
theorem dX11_knownLines_22 : decode cX11_knownLines 22 = .ok (.ifnull 6, 3) := qdE198 (by decide +kernel)
theorem dX11_knownLines_25 : decode cX11_knownLines 25 = .ok (.iinc 2 1, 3) := qdE132 (by decide +kernel)
theorem dX11_knownLines_28 : decode cX11_knownLines 28 = .ok (.iinc 3 1, 3) := qdE132 (by decide +kernel)
theorem dX11_knownLines_31 : decode cX11_knownLines 31 = .ok (.goto (-27), 3) := qdE167 (by decide +kernel)
theorem dX11_knownLines_34 : decode cX11_knownLines 34 = .ok (.iload_n 2, 1) := qdE28 (by decide +kernel)
theorem dX11_knownLines_35 : decode cX11_knownLines 35 = .ok (.ireturn, 1) := qdE172 (by decide +kernel)
set_option maxRecDepth 20000 in
theorem glX11_totalOfKnown_0 : GoodIn wsX11_totalOfKnown (wsX11_totalOfKnown_r1) := goodIn_sub (fun _ h => List.mem_cons_of_mem _ (List.mem_append_left _ (List.mem_append_left _ (List.mem_append_left _ (List.mem_append_left _ (List.mem_append_left _ (h))))))) (by decide +kernel)
set_option maxRecDepth 20000 in
theorem glX11_totalOfKnown_1 : GoodIn wsX11_totalOfKnown (wsX11_totalOfKnown_r2) := goodIn_sub (fun _ h => List.mem_cons_of_mem _ (List.mem_append_left _ (List.mem_append_left _ (List.mem_append_left _ (List.mem_append_left _ (List.mem_append_right _ (h))))))) (by decide +kernel)
set_option maxRecDepth 20000 in
theorem glX11_totalOfKnown_3 : GoodIn wsX11_totalOfKnown (wsX110) := goodIn_sub (fun _ h => List.mem_cons_of_mem _ (List.mem_append_left _ (List.mem_append_left _ (List.mem_append_right _ (h))))) ag_wsX110
set_option maxRecDepth 20000 in
theorem glX11_totalOfKnown_4 : GoodIn wsX11_totalOfKnown (wsX00) := goodIn_sub (fun _ h => List.mem_cons_of_mem _ (List.mem_append_left _ (List.mem_append_right _ (h)))) ag_wsX00
set_option maxRecDepth 20000 in
theorem glX11_totalOfKnown_5 : GoodIn wsX11_totalOfKnown (wsX80) := goodIn_sub (fun _ h => List.mem_cons_of_mem _ (List.mem_append_right _ (h))) ag_wsX80
set_option maxRecDepth 20000 in
theorem ggX11_totalOfKnown_X11_soldToday : GoodIn wsX11_totalOfKnown wsX11_soldToday := goodIn_c (glX11_totalOfKnown_0 _ (List.mem_of_getElem? (i := 8) rfl)) (goodIn_app (goodIn_app (goodIn_app (goodIn_c (glX11_totalOfKnown_0 _ (List.mem_of_getElem? (i := 9) rfl)) (goodIn_c (glX11_totalOfKnown_0 _ (List.mem_of_getElem? (i := 2) rfl)) (goodIn_c (glX11_totalOfKnown_0 _ (List.mem_of_getElem? (i := 10) rfl)) (goodIn_c (glX11_totalOfKnown_0 _ (List.mem_of_getElem? (i := 11) rfl)) (goodIn_c (glX11_totalOfKnown_0 _ (List.mem_of_getElem? (i := 12) rfl)) (goodIn_c (glX11_totalOfKnown_0 _ (List.mem_of_getElem? (i := 13) rfl)) (goodIn_c (glX11_totalOfKnown_0 _ (List.mem_of_getElem? (i := 14) rfl)) (goodIn_c (glX11_totalOfKnown_0 _ (List.mem_of_getElem? (i := 15) rfl)) (goodIn_c (glX11_totalOfKnown_0 _ (List.mem_of_getElem? (i := 16) rfl)) (goodIn_c (glX11_totalOfKnown_0 _ (List.mem_of_getElem? (i := 17) rfl)) (goodIn_c (glX11_totalOfKnown_0 _ (List.mem_of_getElem? (i := 18) rfl)) (goodIn_c (glX11_totalOfKnown_0 _ (List.mem_of_getElem? (i := 19) rfl)) (goodIn_c (glX11_totalOfKnown_0 _ (List.mem_of_getElem? (i := 20) rfl)) (goodIn_c (glX11_totalOfKnown_0 _ (List.mem_of_getElem? (i := 21) rfl)) (goodIn_c (glX11_totalOfKnown_0 _ (List.mem_of_getElem? (i := 22) rfl)) (goodIn_c (glX11_totalOfKnown_0 _ (List.mem_of_getElem? (i := 23) rfl)) (goodIn_c (glX11_totalOfKnown_1 _ (List.mem_of_getElem? (i := 0) rfl)) (goodIn_c (glX11_totalOfKnown_1 _ (List.mem_of_getElem? (i := 1) rfl)) (goodIn_c (glX11_totalOfKnown_1 _ (List.mem_of_getElem? (i := 2) rfl)) (goodIn_c (glX11_totalOfKnown_1 _ (List.mem_of_getElem? (i := 3) rfl)) (goodIn_c (glX11_totalOfKnown_0 _ (List.mem_of_getElem? (i := 7) rfl)) (goodIn_c (glX11_totalOfKnown_1 _ (List.mem_of_getElem? (i := 4) rfl)) (goodIn_n))))))))))))))))))))))) (glX11_totalOfKnown_3)) (glX11_totalOfKnown_4)) (glX11_totalOfKnown_5))
set_option maxRecDepth 20000 in
theorem gX11_totalOfKnown_X11_soldToday : GoodIn wsX11_totalOfKnown (wsV RX11 482 RX11 yX11_soldToday wsX11_soldToday) := goodIn_app (goodIn_c (glX11_totalOfKnown_0 _ (List.mem_of_getElem? (i := 4) rfl)) (goodIn_c (glX11_totalOfKnown_0 _ (List.mem_of_getElem? (i := 5) rfl)) (goodIn_c (glX11_totalOfKnown_0 _ (List.mem_of_getElem? (i := 6) rfl)) (goodIn_c (glX11_totalOfKnown_0 _ (List.mem_of_getElem? (i := 7) rfl)) (goodIn_n))))) ggX11_totalOfKnown_X11_soldToday
set_option maxRecDepth 20000 in
theorem ggX11_totalOfKnown_X8_moneyOn : GoodIn wsX11_totalOfKnown wsX8_moneyOn := goodIn_c (glX11_totalOfKnown_0 _ (List.mem_of_getElem? (i := 22) rfl)) (goodIn_app (goodIn_c (glX11_totalOfKnown_0 _ (List.mem_of_getElem? (i := 23) rfl)) (goodIn_c (glX11_totalOfKnown_1 _ (List.mem_of_getElem? (i := 0) rfl)) (goodIn_c (glX11_totalOfKnown_1 _ (List.mem_of_getElem? (i := 1) rfl)) (goodIn_c (glX11_totalOfKnown_1 _ (List.mem_of_getElem? (i := 2) rfl)) (goodIn_c (glX11_totalOfKnown_1 _ (List.mem_of_getElem? (i := 3) rfl)) (goodIn_c (glX11_totalOfKnown_0 _ (List.mem_of_getElem? (i := 7) rfl)) (goodIn_c (glX11_totalOfKnown_1 _ (List.mem_of_getElem? (i := 4) rfl)) (goodIn_n)))))))) (glX11_totalOfKnown_5))
set_option maxRecDepth 20000 in
theorem gX11_totalOfKnown_X8_moneyOn : GoodIn wsX11_totalOfKnown (wsV RX11 132 RX8 yX8_moneyOn wsX8_moneyOn) := goodIn_app (goodIn_c (glX11_totalOfKnown_0 _ (List.mem_of_getElem? (i := 18) rfl)) (goodIn_c (glX11_totalOfKnown_0 _ (List.mem_of_getElem? (i := 19) rfl)) (goodIn_c (glX11_totalOfKnown_0 _ (List.mem_of_getElem? (i := 20) rfl)) (goodIn_c (glX11_totalOfKnown_0 _ (List.mem_of_getElem? (i := 21) rfl)) (goodIn_n))))) ggX11_totalOfKnown_X8_moneyOn
theorem dX11_totalOfKnown_0 : decode cX11_totalOfKnown 0 = .ok (.iconst 0, 1) := qdE3 (by decide +kernel)
theorem dX11_totalOfKnown_1 : decode cX11_totalOfKnown 1 = .ok (.istore_n 2, 1) := qdE61 (by decide +kernel)
theorem dX11_totalOfKnown_2 : decode cX11_totalOfKnown 2 = .ok (.iconst 0, 1) := qdE3 (by decide +kernel)
theorem dX11_totalOfKnown_3 : decode cX11_totalOfKnown 3 = .ok (.istore_n 3, 1) := qdE62 (by decide +kernel)
theorem dX11_totalOfKnown_4 : decode cX11_totalOfKnown 4 = .ok (.iload_n 3, 1) := qdE29 (by decide +kernel)
theorem dX11_totalOfKnown_5 : decode cX11_totalOfKnown 5 = .ok (.aload_n 1, 1) := qdE43 (by decide +kernel)
theorem dX11_totalOfKnown_6 : decode cX11_totalOfKnown 6 = .ok (.getfield 228, 3) := qdE180 (by decide +kernel)
theorem dX11_totalOfKnown_9 : decode cX11_totalOfKnown 9 = .ok (.if_icmp .ge 45, 3) := qdE162 (by decide +kernel)
theorem dX11_totalOfKnown_12 : decode cX11_totalOfKnown 12 = .ok (.aload_n 0, 1) := qdE42 (by decide +kernel)
theorem dX11_totalOfKnown_13 : decode cX11_totalOfKnown 13 = .ok (.aload_n 1, 1) := qdE43 (by decide +kernel)
theorem dX11_totalOfKnown_14 : decode cX11_totalOfKnown 14 = .ok (.getfield 459, 3) := qdE180 (by decide +kernel)
theorem dX11_totalOfKnown_17 : decode cX11_totalOfKnown 17 = .ok (.iload_n 3, 1) := qdE29 (by decide +kernel)
theorem dX11_totalOfKnown_18 : decode cX11_totalOfKnown 18 = .ok (.iaload, 1) := qdE46 (by decide +kernel)
theorem dX11_totalOfKnown_19 : decode cX11_totalOfKnown 19 = .ok (.invokevirtual 482, 3) := qdE182 (by decide +kernel)
theorem dX11_totalOfKnown_22 : decode cX11_totalOfKnown 22 = .ok (.astore 4, 2) := qdE58 (by decide +kernel)
theorem dX11_totalOfKnown_24 : decode cX11_totalOfKnown 24 = .ok (.aload 4, 2) := qdE25 (by decide +kernel)
theorem dX11_totalOfKnown_26 : decode cX11_totalOfKnown 26 = .ok (.ifnull 22, 3) := qdE198 (by decide +kernel)
theorem dX11_totalOfKnown_29 : decode cX11_totalOfKnown 29 = .ok (.iload_n 2, 1) := qdE28 (by decide +kernel)
theorem dX11_totalOfKnown_30 : decode cX11_totalOfKnown 30 = .ok (.aload 4, 2) := qdE25 (by decide +kernel)
theorem dX11_totalOfKnown_32 : decode cX11_totalOfKnown 32 = .ok (.aload_n 0, 1) := qdE42 (by decide +kernel)
theorem dX11_totalOfKnown_33 : decode cX11_totalOfKnown 33 = .ok (.getfield 136, 3) := qdE180 (by decide +kernel)
theorem dX11_totalOfKnown_36 : decode cX11_totalOfKnown 36 = .ok (.invokevirtual 132, 3) := qdE182 (by decide +kernel)
theorem dX11_totalOfKnown_39 : decode cX11_totalOfKnown 39 = .ok (.aload_n 1, 1) := qdE43 (by decide +kernel)
theorem dX11_totalOfKnown_40 : decode cX11_totalOfKnown 40 = .ok (.getfield 475, 3) := qdE180 (by decide +kernel)
theorem dX11_totalOfKnown_43 : decode cX11_totalOfKnown 43 = .ok (.iload_n 3, 1) := qdE29 (by decide +kernel)
theorem dX11_totalOfKnown_44 : decode cX11_totalOfKnown 44 = .ok (.iaload, 1) := qdE46 (by decide +kernel)
theorem dX11_totalOfKnown_45 : decode cX11_totalOfKnown 45 = .ok (.imul, 1) := qdE104 (by decide +kernel)
theorem dX11_totalOfKnown_46 : decode cX11_totalOfKnown 46 = .ok (.iadd, 1) := qdE96 (by decide +kernel)
theorem dX11_totalOfKnown_47 : decode cX11_totalOfKnown 47 = .ok (.istore_n 2, 1) := qdE61 (by decide +kernel)
theorem dX11_totalOfKnown_48 : decode cX11_totalOfKnown 48 = .ok (.iinc 3 1, 3) := qdE132 (by decide +kernel)
theorem dX11_totalOfKnown_51 : decode cX11_totalOfKnown 51 = .ok (.goto (-47), 3) := qdE167 (by decide +kernel)
theorem dX11_totalOfKnown_54 : decode cX11_totalOfKnown 54 = .ok (.iload_n 2, 1) := qdE28 (by decide +kernel)
theorem dX11_totalOfKnown_55 : decode cX11_totalOfKnown 55 = .ok (.ireturn, 1) := qdE172 (by decide +kernel)
set_option maxRecDepth 20000 in
theorem glX11_isPaid_0 : GoodIn wsX11_isPaid (wsX11_isPaid_r1) := goodIn_sub (fun _ h => List.mem_cons_of_mem _ (List.mem_append_left _ (List.mem_append_left _ (List.mem_append_left _ (List.mem_append_left _ (List.mem_append_left _ (List.mem_append_left _ (h)))))))) (by decide +kernel)
set_option maxRecDepth 20000 in
theorem glX11_isPaid_1 : GoodIn wsX11_isPaid (wsX11_isPaid_r2) := goodIn_sub (fun _ h => List.mem_cons_of_mem _ (List.mem_append_left _ (List.mem_append_left _ (List.mem_append_left _ (List.mem_append_left _ (List.mem_append_left _ (List.mem_append_right _ (h)))))))) (by decide +kernel)
set_option maxRecDepth 20000 in
theorem glX11_isPaid_2 : GoodIn wsX11_isPaid (wsX20) := goodIn_sub (fun _ h => List.mem_cons_of_mem _ (List.mem_append_left _ (List.mem_append_left _ (List.mem_append_left _ (List.mem_append_left _ (List.mem_append_right _ (h))))))) ag_wsX20
set_option maxRecDepth 20000 in
theorem glX11_isPaid_3 : GoodIn wsX11_isPaid (wsX110) := goodIn_sub (fun _ h => List.mem_cons_of_mem _ (List.mem_append_left _ (List.mem_append_left _ (List.mem_append_left _ (List.mem_append_right _ (h)))))) ag_wsX110
set_option maxRecDepth 20000 in
theorem glX11_isPaid_4 : GoodIn wsX11_isPaid (wsX00) := goodIn_sub (fun _ h => List.mem_cons_of_mem _ (List.mem_append_left _ (List.mem_append_left _ (List.mem_append_right _ (h))))) ag_wsX00
set_option maxRecDepth 20000 in
theorem glX11_isPaid_5 : GoodIn wsX11_isPaid (wsX80) := goodIn_sub (fun _ h => List.mem_cons_of_mem _ (List.mem_append_left _ (List.mem_append_right _ (h)))) ag_wsX80
set_option maxRecDepth 20000 in
theorem ggX11_isPaid_X11_totalOfKnown : GoodIn wsX11_isPaid wsX11_totalOfKnown := goodIn_c (glX11_isPaid_0 _ (List.mem_of_getElem? (i := 6) rfl)) (goodIn_app (goodIn_app (goodIn_app (goodIn_app (goodIn_app (goodIn_c (glX11_isPaid_0 _ (List.mem_of_getElem? (i := 7) rfl)) (goodIn_c (glX11_isPaid_0 _ (List.mem_of_getElem? (i := 8) rfl)) (goodIn_c (glX11_isPaid_0 _ (List.mem_of_getElem? (i := 9) rfl)) (goodIn_c (glX11_isPaid_0 _ (List.mem_of_getElem? (i := 10) rfl)) (goodIn_c (glX11_isPaid_0 _ (List.mem_of_getElem? (i := 11) rfl)) (goodIn_c (glX11_isPaid_0 _ (List.mem_of_getElem? (i := 12) rfl)) (goodIn_c (glX11_isPaid_0 _ (List.mem_of_getElem? (i := 13) rfl)) (goodIn_c (glX11_isPaid_0 _ (List.mem_of_getElem? (i := 5) rfl)) (goodIn_c (glX11_isPaid_0 _ (List.mem_of_getElem? (i := 14) rfl)) (goodIn_c (glX11_isPaid_0 _ (List.mem_of_getElem? (i := 15) rfl)) (goodIn_c (glX11_isPaid_0 _ (List.mem_of_getElem? (i := 16) rfl)) (goodIn_c (glX11_isPaid_0 _ (List.mem_of_getElem? (i := 17) rfl)) (goodIn_c (glX11_isPaid_0 _ (List.mem_of_getElem? (i := 18) rfl)) (goodIn_c (glX11_isPaid_0 _ (List.mem_of_getElem? (i := 19) rfl)) (goodIn_c (glX11_isPaid_0 _ (List.mem_of_getElem? (i := 20) rfl)) (goodIn_c (glX11_isPaid_0 _ (List.mem_of_getElem? (i := 21) rfl)) (goodIn_c (glX11_isPaid_0 _ (List.mem_of_getElem? (i := 22) rfl)) (goodIn_c (glX11_isPaid_0 _ (List.mem_of_getElem? (i := 23) rfl)) (goodIn_c (glX11_isPaid_1 _ (List.mem_of_getElem? (i := 0) rfl)) (goodIn_c (glX11_isPaid_1 _ (List.mem_of_getElem? (i := 1) rfl)) (goodIn_c (glX11_isPaid_1 _ (List.mem_of_getElem? (i := 2) rfl)) (goodIn_c (glX11_isPaid_1 _ (List.mem_of_getElem? (i := 3) rfl)) (goodIn_c (glX11_isPaid_1 _ (List.mem_of_getElem? (i := 4) rfl)) (goodIn_c (glX11_isPaid_1 _ (List.mem_of_getElem? (i := 5) rfl)) (goodIn_n))))))))))))))))))))))))) (goodIn_c (glX11_isPaid_1 _ (List.mem_of_getElem? (i := 6) rfl)) (goodIn_c (glX11_isPaid_1 _ (List.mem_of_getElem? (i := 7) rfl)) (goodIn_c (glX11_isPaid_1 _ (List.mem_of_getElem? (i := 8) rfl)) (goodIn_c (glX11_isPaid_1 _ (List.mem_of_getElem? (i := 9) rfl)) (goodIn_c (glX11_isPaid_1 _ (List.mem_of_getElem? (i := 10) rfl)) (goodIn_n))))))) (glX11_isPaid_2)) (glX11_isPaid_3)) (glX11_isPaid_4)) (glX11_isPaid_5))
set_option maxRecDepth 20000 in
theorem gX11_isPaid_X11_totalOfKnown : GoodIn wsX11_isPaid (wsV RX11 485 RX11 yX11_totalOfKnown wsX11_totalOfKnown) := goodIn_app (goodIn_c (glX11_isPaid_0 _ (List.mem_of_getElem? (i := 2) rfl)) (goodIn_c (glX11_isPaid_0 _ (List.mem_of_getElem? (i := 3) rfl)) (goodIn_c (glX11_isPaid_0 _ (List.mem_of_getElem? (i := 4) rfl)) (goodIn_c (glX11_isPaid_0 _ (List.mem_of_getElem? (i := 5) rfl)) (goodIn_n))))) ggX11_isPaid_X11_totalOfKnown
set_option maxRecDepth 20000 in
theorem glX11_isPaid_6 : GoodIn wsX11_isPaid (wsX50) := goodIn_sub (fun _ h => List.mem_cons_of_mem _ (List.mem_append_right _ (h))) ag_wsX50
set_option maxRecDepth 20000 in
theorem ggX11_isPaid_X5_postOf : GoodIn wsX11_isPaid wsX5_postOf := goodIn_c (glX11_isPaid_1 _ (List.mem_of_getElem? (i := 15) rfl)) (goodIn_app (goodIn_c (glX11_isPaid_1 _ (List.mem_of_getElem? (i := 16) rfl)) (goodIn_n)) (glX11_isPaid_6))
set_option maxRecDepth 20000 in
theorem gX11_isPaid_X5_postOf : GoodIn wsX11_isPaid (wsV RX11 488 RX5 yX5_postOf wsX5_postOf) := goodIn_app (goodIn_c (glX11_isPaid_1 _ (List.mem_of_getElem? (i := 11) rfl)) (goodIn_c (glX11_isPaid_1 _ (List.mem_of_getElem? (i := 12) rfl)) (goodIn_c (glX11_isPaid_1 _ (List.mem_of_getElem? (i := 13) rfl)) (goodIn_c (glX11_isPaid_1 _ (List.mem_of_getElem? (i := 14) rfl)) (goodIn_n))))) ggX11_isPaid_X5_postOf
theorem dX11_isPaid_0 : decode cX11_isPaid 0 = .ok (.aload_n 0, 1) := qdE42 (by decide +kernel)
theorem dX11_isPaid_1 : decode cX11_isPaid 1 = .ok (.aload_n 1, 1) := qdE43 (by decide +kernel)
theorem dX11_isPaid_2 : decode cX11_isPaid 2 = .ok (.invokevirtual 485, 3) := qdE182 (by decide +kernel)
theorem dX11_isPaid_5 : decode cX11_isPaid 5 = .ok (.istore_n 2, 1) := qdE61 (by decide +kernel)
theorem dX11_isPaid_6 : decode cX11_isPaid 6 = .ok (.iload_n 2, 1) := qdE28 (by decide +kernel)
theorem dX11_isPaid_7 : decode cX11_isPaid 7 = .ok (.ifCond .le 24, 3) := qdE158 (by decide +kernel)
theorem dX11_isPaid_10 : decode cX11_isPaid 10 = .ok (.aload_n 1, 1) := qdE43 (by decide +kernel)
theorem dX11_isPaid_11 : decode cX11_isPaid 11 = .ok (.getfield 237, 3) := qdE180 (by decide +kernel)
theorem dX11_isPaid_14 : decode cX11_isPaid 14 = .ok (.iload_n 2, 1) := qdE28 (by decide +kernel)
theorem dX11_isPaid_15 : decode cX11_isPaid 15 = .ok (.aload_n 0, 1) := qdE42 (by decide +kernel)
theorem dX11_isPaid_16 : decode cX11_isPaid 16 = .ok (.getfield 33, 3) := qdE180 (by decide +kernel)
theorem dX11_isPaid_19 : decode cX11_isPaid 19 = .ok (.iload_n 2, 1) := qdE28 (by decide +kernel)
theorem dX11_isPaid_20 : decode cX11_isPaid 20 = .ok (.invokevirtual 488, 3) := qdE182 (by decide +kernel)
theorem dX11_isPaid_23 : decode cX11_isPaid 23 = .ok (.iadd, 1) := qdE96 (by decide +kernel)
theorem dX11_isPaid_24 : decode cX11_isPaid 24 = .ok (.if_icmp .lt 7, 3) := qdE161 (by decide +kernel)
theorem dX11_isPaid_27 : decode cX11_isPaid 27 = .ok (.iconst 1, 1) := qdE4 (by decide +kernel)
theorem dX11_isPaid_28 : decode cX11_isPaid 28 = .ok (.goto 4, 3) := qdE167 (by decide +kernel)
theorem dX11_isPaid_31 : decode cX11_isPaid 31 = .ok (.iconst 0, 1) := qdE3 (by decide +kernel)
theorem dX11_isPaid_32 : decode cX11_isPaid 32 = .ok (.ireturn, 1) := qdE172 (by decide +kernel)
set_option maxRecDepth 20000 in
theorem glX11_makeOrder_0 : GoodIn wsX11_makeOrder (wsX11_makeOrder_r1) := goodIn_sub (fun _ h => List.mem_cons_of_mem _ (List.mem_append_left _ (List.mem_append_left _ (List.mem_append_left _ (List.mem_append_left _ (List.mem_append_left _ (List.mem_append_left _ (List.mem_append_left _ (List.mem_append_left _ (h)))))))))) (by decide +kernel)
set_option maxRecDepth 20000 in
theorem glX11_makeOrder_1 : GoodIn wsX11_makeOrder (wsX11_makeOrder_r2) := goodIn_sub (fun _ h => List.mem_cons_of_mem _ (List.mem_append_left _ (List.mem_append_left _ (List.mem_append_left _ (List.mem_append_left _ (List.mem_append_left _ (List.mem_append_left _ (List.mem_append_left _ (List.mem_append_right _ (List.mem_append_left _ (h))))))))))) (by decide +kernel)
set_option maxRecDepth 20000 in
theorem glX11_makeOrder_6 : GoodIn wsX11_makeOrder (wsX20) := goodIn_sub (fun _ h => List.mem_cons_of_mem _ (List.mem_append_left _ (List.mem_append_left _ (List.mem_append_left _ (List.mem_append_left _ (List.mem_append_right _ (h))))))) ag_wsX20
set_option maxRecDepth 20000 in
theorem glX11_makeOrder_5 : GoodIn wsX11_makeOrder (wsX110) := goodIn_sub (fun _ h => List.mem_cons_of_mem _ (List.mem_append_left _ (List.mem_append_left _ (List.mem_append_left _ (List.mem_append_left _ (List.mem_append_left _ (List.mem_append_right _ (h)))))))) ag_wsX110
set_option maxRecDepth 20000 in
theorem glX11_makeOrder_8 : GoodIn wsX11_makeOrder (wsX00) := goodIn_sub (fun _ h => List.mem_cons_of_mem _ (List.mem_append_left _ (List.mem_append_left _ (List.mem_append_right _ (h))))) ag_wsX00
set_option maxRecDepth 20000 in
theorem glX11_makeOrder_9 : GoodIn wsX11_makeOrder (wsX80) := goodIn_sub (fun _ h => List.mem_cons_of_mem _ (List.mem_append_left _ (List.mem_append_right _ (h)))) ag_wsX80
set_option maxRecDepth 20000 in
theorem ggX11_makeOrder_X11_totalOfKnown : GoodIn wsX11_makeOrder wsX11_totalOfKnown := goodIn_c (glX11_makeOrder_0 _ (List.mem_of_getElem? (i := 18) rfl)) (goodIn_app (goodIn_app (goodIn_app (goodIn_app (goodIn_app (goodIn_c (glX11_makeOrder_0 _ (List.mem_of_getElem? (i := 6) rfl)) (goodIn_c (glX11_makeOrder_0 _ (List.mem_of_getElem? (i := 7) rfl)) (goodIn_c (glX11_makeOrder_0 _ (List.mem_of_getElem? (i := 3) rfl)) (goodIn_c (glX11_makeOrder_0 _ (List.mem_of_getElem? (i := 11) rfl)) (goodIn_c (glX11_makeOrder_0 _ (List.mem_of_getElem? (i := 19) rfl)) (goodIn_c (glX11_makeOrder_0 _ (List.mem_of_getElem? (i := 20) rfl)) (goodIn_c (glX11_makeOrder_0 _ (List.mem_of_getElem? (i := 21) rfl)) (goodIn_c (glX11_makeOrder_0 _ (List.mem_of_getElem? (i := 17) rfl)) (goodIn_c (glX11_makeOrder_0 _ (List.mem_of_getElem? (i := 22) rfl)) (goodIn_c (glX11_makeOrder_0 _ (List.mem_of_getElem? (i := 23) rfl)) (goodIn_c (glX11_makeOrder_1 _ (List.mem_of_getElem? (i := 0) rfl)) (goodIn_c (glX11_makeOrder_1 _ (List.mem_of_getElem? (i := 1) rfl)) (goodIn_c (glX11_makeOrder_1 _ (List.mem_of_getElem? (i := 2) rfl)) (goodIn_c (glX11_makeOrder_1 _ (List.mem_of_getElem? (i := 3) rfl)) (goodIn_c (glX11_makeOrder_1 _ (List.mem_of_getElem? (i := 4) rfl)) (goodIn_c (glX11_makeOrder_1 _ (List.mem_of_getElem? (i := 5) rfl)) (goodIn_c (glX11_makeOrder_1 _ (List.mem_of_getElem? (i := 6) rfl)) (goodIn_c (glX11_makeOrder_1 _ (List.mem_of_getElem? (i := 7) rfl)) (goodIn_c (glX11_makeOrder_1 _ (List.mem_of_getElem? (i := 8) rfl)) (goodIn_c (glX11_makeOrder_1 _ (List.mem_of_getElem? (i := 9) rfl)) (goodIn_c (glX11_makeOrder_1 _ (List.mem_of_getElem? (i := 10) rfl)) (goodIn_c (glX11_makeOrder_1 _ (List.mem_of_getElem? (i := 11) rfl)) (goodIn_c (glX11_makeOrder_1 _ (List.mem_of_getElem? (i := 12) rfl)) (goodIn_c (glX11_makeOrder_1 _ (List.mem_of_getElem? (i := 13) rfl)) (goodIn_n))))))))))))))))))))))))) (goodIn_c (glX11_makeOrder_1 _ (List.mem_of_getElem? (i := 14) rfl)) (goodIn_c (glX11_makeOrder_1 _ (List.mem_of_getElem? (i := 15) rfl)) (goodIn_c (glX11_makeOrder_1 _ (List.mem_of_getElem? (i := 16) rfl)) (goodIn_c (glX11_makeOrder_1 _ (List.mem_of_getElem? (i := 17) rfl)) (goodIn_c (glX11_makeOrder_1 _ (List.mem_of_getElem? (i := 18) rfl)) (goodIn_n))))))) (glX11_makeOrder_6)) (glX11_makeOrder_5)) (glX11_makeOrder_8)) (glX11_makeOrder_9))
set_option maxRecDepth 20000 in
theorem gX11_makeOrder_X11_totalOfKnown : GoodIn wsX11_makeOrder (wsV RX11 485 RX11 yX11_totalOfKnown wsX11_totalOfKnown) := goodIn_app (goodIn_c (glX11_makeOrder_0 _ (List.mem_of_getElem? (i := 14) rfl)) (goodIn_c (glX11_makeOrder_0 _ (List.mem_of_getElem? (i := 15) rfl)) (goodIn_c (glX11_makeOrder_0 _ (List.mem_of_getElem? (i := 16) rfl)) (goodIn_c (glX11_makeOrder_0 _ (List.mem_of_getElem? (i := 17) rfl)) (goodIn_n))))) ggX11_makeOrder_X11_totalOfKnown
set_option maxRecDepth 20000 in
theorem glX11_makeOrder_2 : GoodIn wsX11_makeOrder (wsX11_makeOrder_r3) := goodIn_sub (fun _ h => List.mem_cons_of_mem _ (List.mem_append_left _ (List.mem_append_left _ (List.mem_append_left _ (List.mem_append_left _ (List.mem_append_left _ (List.mem_append_left _ (List.mem_append_left _ (List.mem_append_right _ (List.mem_append_right _ (List.mem_append_left _ (h)))))))))))) (by decide +kernel)
set_option maxRecDepth 20000 in
theorem glX11_makeOrder_10 : GoodIn wsX11_makeOrder (wsX50) := goodIn_sub (fun _ h => List.mem_cons_of_mem _ (List.mem_append_right _ (h))) ag_wsX50
set_option maxRecDepth 20000 in
theorem ggX11_makeOrder_X5_postOf : GoodIn wsX11_makeOrder wsX5_postOf := goodIn_c (glX11_makeOrder_1 _ (List.mem_of_getElem? (i := 23) rfl)) (goodIn_app (goodIn_c (glX11_makeOrder_2 _ (List.mem_of_getElem? (i := 0) rfl)) (goodIn_n)) (glX11_makeOrder_10))
set_option maxRecDepth 20000 in
theorem gX11_makeOrder_X5_postOf : GoodIn wsX11_makeOrder (wsV RX11 488 RX5 yX5_postOf wsX5_postOf) := goodIn_app (goodIn_c (glX11_makeOrder_1 _ (List.mem_of_getElem? (i := 19) rfl)) (goodIn_c (glX11_makeOrder_1 _ (List.mem_of_getElem? (i := 20) rfl)) (goodIn_c (glX11_makeOrder_1 _ (List.mem_of_getElem? (i := 21) rfl)) (goodIn_c (glX11_makeOrder_1 _ (List.mem_of_getElem? (i := 22) rfl)) (goodIn_n))))) ggX11_makeOrder_X5_postOf
set_option maxRecDepth 20000 in
theorem glX11_makeOrder_4 : GoodIn wsX11_makeOrder (wsX30) := goodIn_sub (fun _ h => List.mem_cons_of_mem _ (List.mem_append_left _ (List.mem_append_left _ (List.mem_append_left _ (List.mem_append_left _ (List.mem_append_left _ (List.mem_append_left _ (List.mem_append_right _ (h))))))))) ag_wsX30
set_option maxRecDepth 20000 in
theorem ggX11_makeOrder_X3_init : GoodIn wsX11_makeOrder wsX3_init := goodIn_c (glX11_makeOrder_2 _ (List.mem_of_getElem? (i := 3) rfl)) (goodIn_app (goodIn_c (glX11_makeOrder_2 _ (List.mem_of_getElem? (i := 4) rfl)) (goodIn_c (glX11_makeOrder_2 _ (List.mem_of_getElem? (i := 5) rfl)) (goodIn_c (glX11_makeOrder_2 _ (List.mem_of_getElem? (i := 6) rfl)) (goodIn_c (glX11_makeOrder_2 _ (List.mem_of_getElem? (i := 7) rfl)) (goodIn_c (glX11_makeOrder_2 _ (List.mem_of_getElem? (i := 8) rfl)) (goodIn_c (glX11_makeOrder_2 _ (List.mem_of_getElem? (i := 9) rfl)) (goodIn_c (glX11_makeOrder_2 _ (List.mem_of_getElem? (i := 10) rfl)) (goodIn_c (glX11_makeOrder_2 _ (List.mem_of_getElem? (i := 11) rfl)) (goodIn_c (glX11_makeOrder_2 _ (List.mem_of_getElem? (i := 12) rfl)) (goodIn_n)))))))))) (glX11_makeOrder_4))
set_option maxRecDepth 20000 in
theorem gX11_makeOrder_X3_init : GoodIn wsX11_makeOrder (wsX3_init) := ggX11_makeOrder_X3_init
set_option maxRecDepth 20000 in
theorem ggX11_makeOrder_X11_soldToday : GoodIn wsX11_makeOrder wsX11_soldToday := goodIn_c (glX11_makeOrder_0 _ (List.mem_of_getElem? (i := 22) rfl)) (goodIn_app (goodIn_app (goodIn_app (goodIn_c (glX11_makeOrder_0 _ (List.mem_of_getElem? (i := 23) rfl)) (goodIn_c (glX11_makeOrder_0 _ (List.mem_of_getElem? (i := 3) rfl)) (goodIn_c (glX11_makeOrder_1 _ (List.mem_of_getElem? (i := 0) rfl)) (goodIn_c (glX11_makeOrder_1 _ (List.mem_of_getElem? (i := 1) rfl)) (goodIn_c (glX11_makeOrder_1 _ (List.mem_of_getElem? (i := 2) rfl)) (goodIn_c (glX11_makeOrder_1 _ (List.mem_of_getElem? (i := 3) rfl)) (goodIn_c (glX11_makeOrder_1 _ (List.mem_of_getElem? (i := 4) rfl)) (goodIn_c (glX11_makeOrder_1 _ (List.mem_of_getElem? (i := 5) rfl)) (goodIn_c (glX11_makeOrder_1 _ (List.mem_of_getElem? (i := 6) rfl)) (goodIn_c (glX11_makeOrder_1 _ (List.mem_of_getElem? (i := 7) rfl)) (goodIn_c (glX11_makeOrder_1 _ (List.mem_of_getElem? (i := 8) rfl)) (goodIn_c (glX11_makeOrder_1 _ (List.mem_of_getElem? (i := 9) rfl)) (goodIn_c (glX11_makeOrder_1 _ (List.mem_of_getElem? (i := 10) rfl)) (goodIn_c (glX11_makeOrder_1 _ (List.mem_of_getElem? (i := 11) rfl)) (goodIn_c (glX11_makeOrder_1 _ (List.mem_of_getElem? (i := 12) rfl)) (goodIn_c (glX11_makeOrder_1 _ (List.mem_of_getElem? (i := 13) rfl)) (goodIn_c (glX11_makeOrder_1 _ (List.mem_of_getElem? (i := 14) rfl)) (goodIn_c (glX11_makeOrder_1 _ (List.mem_of_getElem? (i := 15) rfl)) (goodIn_c (glX11_makeOrder_1 _ (List.mem_of_getElem? (i := 16) rfl)) (goodIn_c (glX11_makeOrder_1 _ (List.mem_of_getElem? (i := 17) rfl)) (goodIn_c (glX11_makeOrder_0 _ (List.mem_of_getElem? (i := 17) rfl)) (goodIn_c (glX11_makeOrder_1 _ (List.mem_of_getElem? (i := 18) rfl)) (goodIn_n))))))))))))))))))))))) (glX11_makeOrder_5)) (glX11_makeOrder_8)) (glX11_makeOrder_9))
set_option maxRecDepth 20000 in
theorem gX11_makeOrder_X11_soldToday : GoodIn wsX11_makeOrder (wsV RX11 482 RX11 yX11_soldToday wsX11_soldToday) := goodIn_app (goodIn_c (glX11_makeOrder_0 _ (List.mem_of_getElem? (i := 19) rfl)) (goodIn_c (glX11_makeOrder_0 _ (List.mem_of_getElem? (i := 20) rfl)) (goodIn_c (glX11_makeOrder_0 _ (List.mem_of_getElem? (i := 21) rfl)) (goodIn_c (glX11_makeOrder_0 _ (List.mem_of_getElem? (i := 17) rfl)) (goodIn_n))))) ggX11_makeOrder_X11_soldToday
set_option maxRecDepth 20000 in
theorem ggX11_makeOrder_X8_moneyOn : GoodIn wsX11_makeOrder wsX8_moneyOn := goodIn_c (glX11_makeOrder_1 _ (List.mem_of_getElem? (i := 12) rfl)) (goodIn_app (goodIn_c (glX11_makeOrder_1 _ (List.mem_of_getElem? (i := 13) rfl)) (goodIn_c (glX11_makeOrder_1 _ (List.mem_of_getElem? (i := 14) rfl)) (goodIn_c (glX11_makeOrder_1 _ (List.mem_of_getElem? (i := 15) rfl)) (goodIn_c (glX11_makeOrder_1 _ (List.mem_of_getElem? (i := 16) rfl)) (goodIn_c (glX11_makeOrder_1 _ (List.mem_of_getElem? (i := 17) rfl)) (goodIn_c (glX11_makeOrder_0 _ (List.mem_of_getElem? (i := 17) rfl)) (goodIn_c (glX11_makeOrder_1 _ (List.mem_of_getElem? (i := 18) rfl)) (goodIn_n)))))))) (glX11_makeOrder_9))
set_option maxRecDepth 20000 in
theorem gX11_makeOrder_X8_moneyOn : GoodIn wsX11_makeOrder (wsV RX11 132 RX8 yX8_moneyOn wsX8_moneyOn) := goodIn_app (goodIn_c (glX11_makeOrder_1 _ (List.mem_of_getElem? (i := 8) rfl)) (goodIn_c (glX11_makeOrder_1 _ (List.mem_of_getElem? (i := 9) rfl)) (goodIn_c (glX11_makeOrder_1 _ (List.mem_of_getElem? (i := 10) rfl)) (goodIn_c (glX11_makeOrder_1 _ (List.mem_of_getElem? (i := 11) rfl)) (goodIn_n))))) ggX11_makeOrder_X8_moneyOn
set_option maxRecDepth 20000 in
theorem glX11_makeOrder_7 : GoodIn wsX11_makeOrder (wsX100) := goodIn_sub (fun _ h => List.mem_cons_of_mem _ (List.mem_append_left _ (List.mem_append_left _ (List.mem_append_left _ (List.mem_append_right _ (h)))))) ag_wsX100
set_option maxRecDepth 20000 in
theorem ggX11_makeOrder_X10_init : GoodIn wsX11_makeOrder wsX10_init := goodIn_c (glX11_makeOrder_2 _ (List.mem_of_getElem? (i := 15) rfl)) (goodIn_app (goodIn_c (glX11_makeOrder_2 _ (List.mem_of_getElem? (i := 16) rfl)) (goodIn_c (glX11_makeOrder_2 _ (List.mem_of_getElem? (i := 5) rfl)) (goodIn_c (glX11_makeOrder_2 _ (List.mem_of_getElem? (i := 6) rfl)) (goodIn_c (glX11_makeOrder_2 _ (List.mem_of_getElem? (i := 17) rfl)) (goodIn_c (glX11_makeOrder_2 _ (List.mem_of_getElem? (i := 18) rfl)) (goodIn_c (glX11_makeOrder_2 _ (List.mem_of_getElem? (i := 19) rfl)) (goodIn_c (glX11_makeOrder_2 _ (List.mem_of_getElem? (i := 20) rfl)) (goodIn_n)))))))) (glX11_makeOrder_7))
set_option maxRecDepth 20000 in
theorem gX11_makeOrder_X10_init : GoodIn wsX11_makeOrder (wsX10_init) := ggX11_makeOrder_X10_init
set_option maxRecDepth 20000 in
theorem glX11_makeOrder_3 : GoodIn wsX11_makeOrder (wsX11_makeOrder_r4) := goodIn_sub (fun _ h => List.mem_cons_of_mem _ (List.mem_append_left _ (List.mem_append_left _ (List.mem_append_left _ (List.mem_append_left _ (List.mem_append_left _ (List.mem_append_left _ (List.mem_append_left _ (List.mem_append_right _ (List.mem_append_right _ (List.mem_append_right _ (h)))))))))))) (by decide +kernel)
set_option maxRecDepth 20000 in
theorem ggX11_makeOrder_X3_add : GoodIn wsX11_makeOrder wsX3_add := goodIn_c (glX11_makeOrder_3 _ (List.mem_of_getElem? (i := 0) rfl)) (goodIn_app (goodIn_c (glX11_makeOrder_3 _ (List.mem_of_getElem? (i := 1) rfl)) (goodIn_c (glX11_makeOrder_2 _ (List.mem_of_getElem? (i := 8) rfl)) (goodIn_n))) (glX11_makeOrder_4))
set_option maxRecDepth 20000 in
theorem gX11_makeOrder_X3_add : GoodIn wsX11_makeOrder (wsV RX11 497 RX3 yX3_add wsX3_add) := goodIn_app (goodIn_c (glX11_makeOrder_2 _ (List.mem_of_getElem? (i := 21) rfl)) (goodIn_c (glX11_makeOrder_2 _ (List.mem_of_getElem? (i := 22) rfl)) (goodIn_c (glX11_makeOrder_2 _ (List.mem_of_getElem? (i := 23) rfl)) (goodIn_c (glX11_makeOrder_0 _ (List.mem_of_getElem? (i := 2) rfl)) (goodIn_n))))) ggX11_makeOrder_X3_add
theorem dX11_makeOrder_0 : decode cX11_makeOrder 0 = .ok (.aload_n 0, 1) := qdE42 (by decide +kernel)
theorem dX11_makeOrder_1 : decode cX11_makeOrder 1 = .ok (.aload_n 1, 1) := qdE43 (by decide +kernel)
theorem dX11_makeOrder_2 : decode cX11_makeOrder 2 = .ok (.invokevirtual 485, 3) := qdE182 (by decide +kernel)
theorem dX11_makeOrder_5 : decode cX11_makeOrder 5 = .ok (.istore_n 2, 1) := qdE61 (by decide +kernel)
theorem dX11_makeOrder_6 : decode cX11_makeOrder 6 = .ok (.new 46, 3) := qdE187 (by decide +kernel)
theorem dX11_makeOrder_9 : decode cX11_makeOrder 9 = .ok (.dup, 1) := qdE89 (by decide +kernel)
theorem dX11_makeOrder_10 : decode cX11_makeOrder 10 = .ok (.aload_n 0, 1) := qdE42 (by decide +kernel)
theorem dX11_makeOrder_11 : decode cX11_makeOrder 11 = .ok (.getfield 136, 3) := qdE180 (by decide +kernel)
theorem dX11_makeOrder_14 : decode cX11_makeOrder 14 = .ok (.aload_n 1, 1) := qdE43 (by decide +kernel)
theorem dX11_makeOrder_15 : decode cX11_makeOrder 15 = .ok (.getfield 237, 3) := qdE180 (by decide +kernel)
theorem dX11_makeOrder_18 : decode cX11_makeOrder 18 = .ok (.aload_n 0, 1) := qdE42 (by decide +kernel)
theorem dX11_makeOrder_19 : decode cX11_makeOrder 19 = .ok (.getfield 33, 3) := qdE180 (by decide +kernel)
theorem dX11_makeOrder_22 : decode cX11_makeOrder 22 = .ok (.iload_n 2, 1) := qdE28 (by decide +kernel)
theorem dX11_makeOrder_23 : decode cX11_makeOrder 23 = .ok (.invokevirtual 488, 3) := qdE182 (by decide +kernel)
theorem dX11_makeOrder_26 : decode cX11_makeOrder 26 = .ok (.iload_n 2, 1) := qdE28 (by decide +kernel)
theorem dX11_makeOrder_27 : decode cX11_makeOrder 27 = .ok (.invokespecial 491, 3) := qdE183 (by decide +kernel)
theorem dX11_makeOrder_30 : decode cX11_makeOrder 30 = .ok (.astore_n 3, 1) := qdE78 (by decide +kernel)
theorem dX11_makeOrder_31 : decode cX11_makeOrder 31 = .ok (.iconst 0, 1) := qdE3 (by decide +kernel)
theorem dX11_makeOrder_32 : decode cX11_makeOrder 32 = .ok (.istore 4, 2) := qdE54 (by decide +kernel)
theorem dX11_makeOrder_34 : decode cX11_makeOrder 34 = .ok (.iload 4, 2) := qdE21 (by decide +kernel)
theorem dX11_makeOrder_36 : decode cX11_makeOrder 36 = .ok (.aload_n 1, 1) := qdE43 (by decide +kernel)
theorem dX11_makeOrder_37 : decode cX11_makeOrder 37 = .ok (.getfield 228, 3) := qdE180 (by decide +kernel)
theorem dX11_makeOrder_40 : decode cX11_makeOrder 40 = .ok (.if_icmp .ge 56, 3) := qdE162 (by decide +kernel)
theorem dX11_makeOrder_43 : decode cX11_makeOrder 43 = .ok (.aload_n 0, 1) := qdE42 (by decide +kernel)
theorem dX11_makeOrder_44 : decode cX11_makeOrder 44 = .ok (.aload_n 1, 1) := qdE43 (by decide +kernel)
theorem dX11_makeOrder_45 : decode cX11_makeOrder 45 = .ok (.getfield 459, 3) := qdE180 (by decide +kernel)
theorem dX11_makeOrder_48 : decode cX11_makeOrder 48 = .ok (.iload 4, 2) := qdE21 (by decide +kernel)
theorem dX11_makeOrder_50 : decode cX11_makeOrder 50 = .ok (.iaload, 1) := qdE46 (by decide +kernel)
theorem dX11_makeOrder_51 : decode cX11_makeOrder 51 = .ok (.invokevirtual 482, 3) := qdE182 (by decide +kernel)
theorem dX11_makeOrder_54 : decode cX11_makeOrder 54 = .ok (.astore 5, 2) := qdE58 (by decide +kernel)
theorem dX11_makeOrder_56 : decode cX11_makeOrder 56 = .ok (.aload 5, 2) := qdE25 (by decide +kernel)
theorem dX11_makeOrder_58 : decode cX11_makeOrder 58 = .ok (.ifnull 32, 3) := qdE198 (by decide +kernel)
theorem dX11_makeOrder_61 : decode cX11_makeOrder 61 = .ok (.aload_n 3, 1) := qdE45 (by decide +kernel)
theorem dX11_makeOrder_62 : decode cX11_makeOrder 62 = .ok (.new 277, 3) := qdE187 (by decide +kernel)
theorem dX11_makeOrder_65 : decode cX11_makeOrder 65 = .ok (.dup, 1) := qdE89 (by decide +kernel)
theorem dX11_makeOrder_66 : decode cX11_makeOrder 66 = .ok (.aload 5, 2) := qdE25 (by decide +kernel)
theorem dX11_makeOrder_68 : decode cX11_makeOrder 68 = .ok (.aload_n 1, 1) := qdE43 (by decide +kernel)
theorem dX11_makeOrder_69 : decode cX11_makeOrder 69 = .ok (.getfield 475, 3) := qdE180 (by decide +kernel)
theorem dX11_makeOrder_72 : decode cX11_makeOrder 72 = .ok (.iload 4, 2) := qdE21 (by decide +kernel)
theorem dX11_makeOrder_74 : decode cX11_makeOrder 74 = .ok (.iaload, 1) := qdE46 (by decide +kernel)
theorem dX11_makeOrder_75 : decode cX11_makeOrder 75 = .ok (.aload 5, 2) := qdE25 (by decide +kernel)
theorem dX11_makeOrder_77 : decode cX11_makeOrder 77 = .ok (.aload_n 0, 1) := qdE42 (by decide +kernel)
theorem dX11_makeOrder_78 : decode cX11_makeOrder 78 = .ok (.getfield 136, 3) := qdE180 (by decide +kernel)
theorem dX11_makeOrder_81 : decode cX11_makeOrder 81 = .ok (.invokevirtual 132, 3) := qdE182 (by decide +kernel)
theorem dX11_makeOrder_84 : decode cX11_makeOrder 84 = .ok (.invokespecial 494, 3) := qdE183 (by decide +kernel)
theorem dX11_makeOrder_87 : decode cX11_makeOrder 87 = .ok (.invokevirtual 497, 3) := qdE182 (by decide +kernel)
theorem dX11_makeOrder_90 : decode cX11_makeOrder 90 = .ok (.iinc 4 1, 3) := qdE132 (by decide +kernel)
theorem dX11_makeOrder_93 : decode cX11_makeOrder 93 = .ok (.goto (-59), 3) := qdE167 (by decide +kernel)
theorem dX11_makeOrder_96 : decode cX11_makeOrder 96 = .ok (.aload_n 0, 1) := qdE42 (by decide +kernel)
theorem dX11_makeOrder_97 : decode cX11_makeOrder 97 = .ok (.getfield 48, 3) := qdE180 (by decide +kernel)
theorem dX11_makeOrder_100 : decode cX11_makeOrder 100 = .ok (.aload_n 0, 1) := qdE42 (by decide +kernel)
theorem dX11_makeOrder_101 : decode cX11_makeOrder 101 = .ok (.getfield 366, 3) := qdE180 (by decide +kernel)
theorem dX11_makeOrder_104 : decode cX11_makeOrder 104 = .ok (.aload_n 3, 1) := qdE45 (by decide +kernel)
theorem dX11_makeOrder_105 : decode cX11_makeOrder 105 = .ok (.aastore, 1) := qdE83 (by decide +kernel)
theorem dX11_makeOrder_106 : decode cX11_makeOrder 106 = .ok (.aload_n 0, 1) := qdE42 (by decide +kernel)
theorem dX11_makeOrder_107 : decode cX11_makeOrder 107 = .ok (.dup, 1) := qdE89 (by decide +kernel)
theorem dX11_makeOrder_108 : decode cX11_makeOrder 108 = .ok (.getfield 366, 3) := qdE180 (by decide +kernel)
theorem dX11_makeOrder_111 : decode cX11_makeOrder 111 = .ok (.iconst 1, 1) := qdE4 (by decide +kernel)
theorem dX11_makeOrder_112 : decode cX11_makeOrder 112 = .ok (.iadd, 1) := qdE96 (by decide +kernel)
theorem dX11_makeOrder_113 : decode cX11_makeOrder 113 = .ok (.putfield 366, 3) := qdE181 (by decide +kernel)
theorem dX11_makeOrder_116 : decode cX11_makeOrder 116 = .ok (.aload_n 0, 1) := qdE42 (by decide +kernel)
theorem dX11_makeOrder_117 : decode cX11_makeOrder 117 = .ok (.getfield 366, 3) := qdE180 (by decide +kernel)
theorem dX11_makeOrder_120 : decode cX11_makeOrder 120 = .ok (.iconst 1, 1) := qdE4 (by decide +kernel)
theorem dX11_makeOrder_121 : decode cX11_makeOrder 121 = .ok (.isub, 1) := qdE100 (by decide +kernel)
theorem dX11_makeOrder_122 : decode cX11_makeOrder 122 = .ok (.ireturn, 1) := qdE172 (by decide +kernel)
theorem dX11_waitingDoubts_0 : decode cX11_waitingDoubts 0 = .ok (.iconst 0, 1) := qdE3 (by decide +kernel)
theorem dX11_waitingDoubts_1 : decode cX11_waitingDoubts 1 = .ok (.istore_n 1, 1) := qdE60 (by decide +kernel)
theorem dX11_waitingDoubts_2 : decode cX11_waitingDoubts 2 = .ok (.iconst 0, 1) := qdE3 (by decide +kernel)
theorem dX11_waitingDoubts_3 : decode cX11_waitingDoubts 3 = .ok (.istore_n 2, 1) := qdE61 (by decide +kernel)
theorem dX11_waitingDoubts_4 : decode cX11_waitingDoubts 4 = .ok (.iload_n 2, 1) := qdE28 (by decide +kernel)
theorem dX11_waitingDoubts_5 : decode cX11_waitingDoubts 5 = .ok (.aload_n 0, 1) := qdE42 (by decide +kernel)
theorem dX11_waitingDoubts_6 : decode cX11_waitingDoubts 6 = .ok (.getfield 215, 3) := qdE180 (by decide +kernel)
theorem dX11_waitingDoubts_9 : decode cX11_waitingDoubts 9 = .ok (.if_icmp .ge 24, 3) := qdE162 (by decide +kernel)
theorem dX11_waitingDoubts_12 : decode cX11_waitingDoubts 12 = .ok (.aload_n 0, 1) := qdE42 (by decide +kernel)
theorem dX11_waitingDoubts_13 : decode cX11_waitingDoubts 13 = .ok (.getfield 42, 3) := qdE180 (by decide +kernel)
theorem dX11_waitingDoubts_16 : decode cX11_waitingDoubts 16 = .ok (.iload_n 2, 1) := qdE28 (by decide +kernel)
theorem dX11_waitingDoubts_17 : decode cX11_waitingDoubts 17 = .ok (.aaload, 1) := qdE50 (by decide +kernel)
theorem dX11_waitingDoubts_18 : decode cX11_waitingDoubts 18 = .ok (.getfield 220, 3) := qdE180 (by decide +kernel)
theorem dX11_waitingDoubts_21 : decode cX11_waitingDoubts 21 = .ok (.ifCond .eq 6, 3) := qdE153 (by decide +kernel)
theorem dX11_waitingDoubts_24 : decode cX11_waitingDoubts 24 = .ok (.iinc 1 1, 3) := qdE132 (by decide +kernel)
theorem dX11_waitingDoubts_27 : decode cX11_waitingDoubts 27 = .ok (.iinc 2 1, 3) := qdE132 (by decide +kernel)
theorem dX11_waitingDoubts_30 : decode cX11_waitingDoubts 30 = .ok (.goto (-26), 3) := qdE167 (by decide +kernel)
theorem dX11_waitingDoubts_33 : decode cX11_waitingDoubts 33 = .ok (.iload_n 1, 1) := qdE27 (by decide +kernel)
theorem dX11_waitingDoubts_34 : decode cX11_waitingDoubts 34 = .ok (.ireturn, 1) := qdE172 (by decide +kernel)
set_option maxRecDepth 20000 in
theorem glX11_passDay_0 : GoodIn wsX11_passDay (wsX11_passDay_r1) := goodIn_sub (fun _ h => List.mem_cons_of_mem _ (List.mem_append_left _ (List.mem_append_left _ (List.mem_append_left _ (List.mem_append_left _ (List.mem_append_left _ (List.mem_append_left _ (List.mem_append_left _ (List.mem_append_left _ (List.mem_append_left _ (List.mem_append_left _ (h)))))))))))) (by decide +kernel)
set_option maxRecDepth 20000 in
theorem glX11_passDay_6 : GoodIn wsX11_passDay (wsX10) := goodIn_sub (fun _ h => List.mem_cons_of_mem _ (List.mem_append_left _ (List.mem_append_left _ (List.mem_append_left _ (List.mem_append_left _ (List.mem_append_left _ (List.mem_append_left _ (List.mem_append_left _ (List.mem_append_right _ (h)))))))))) ag_wsX10
set_option maxRecDepth 20000 in
theorem glX11_passDay_7 : GoodIn wsX11_passDay (wsX80) := goodIn_sub (fun _ h => List.mem_cons_of_mem _ (List.mem_append_left _ (List.mem_append_left _ (List.mem_append_left _ (List.mem_append_left _ (List.mem_append_left _ (List.mem_append_left _ (List.mem_append_right _ (h))))))))) ag_wsX80
set_option maxRecDepth 20000 in
theorem ggX11_passDay_X1_arrive : GoodIn wsX11_passDay wsX1_arrive := goodIn_c (glX11_passDay_0 _ (List.mem_of_getElem? (i := 7) rfl)) (goodIn_app (goodIn_app (goodIn_c (glX11_passDay_0 _ (List.mem_of_getElem? (i := 8) rfl)) (goodIn_c (glX11_passDay_0 _ (List.mem_of_getElem? (i := 9) rfl)) (goodIn_c (glX11_passDay_0 _ (List.mem_of_getElem? (i := 10) rfl)) (goodIn_c (glX11_passDay_0 _ (List.mem_of_getElem? (i := 11) rfl)) (goodIn_c (glX11_passDay_0 _ (List.mem_of_getElem? (i := 12) rfl)) (goodIn_n)))))) (glX11_passDay_6)) (glX11_passDay_7))
set_option maxRecDepth 20000 in
theorem gX11_passDay_X1_arrive : GoodIn wsX11_passDay (wsV RX11 500 RX1 yX1_arrive wsX1_arrive) := goodIn_app (goodIn_c (glX11_passDay_0 _ (List.mem_of_getElem? (i := 3) rfl)) (goodIn_c (glX11_passDay_0 _ (List.mem_of_getElem? (i := 4) rfl)) (goodIn_c (glX11_passDay_0 _ (List.mem_of_getElem? (i := 5) rfl)) (goodIn_c (glX11_passDay_0 _ (List.mem_of_getElem? (i := 6) rfl)) (goodIn_n))))) ggX11_passDay_X1_arrive
set_option maxRecDepth 20000 in
theorem glX11_passDay_1 : GoodIn wsX11_passDay (wsX11_passDay_r2) := goodIn_sub (fun _ h => List.mem_cons_of_mem _ (List.mem_append_left _ (List.mem_append_left _ (List.mem_append_left _ (List.mem_append_left _ (List.mem_append_left _ (List.mem_append_left _ (List.mem_append_left _ (List.mem_append_left _ (List.mem_append_left _ (List.mem_append_right _ (List.mem_append_left _ (h))))))))))))) (by decide +kernel)
set_option maxRecDepth 20000 in
theorem glX11_passDay_2 : GoodIn wsX11_passDay (wsX11_passDay_r3) := goodIn_sub (fun _ h => List.mem_cons_of_mem _ (List.mem_append_left _ (List.mem_append_left _ (List.mem_append_left _ (List.mem_append_left _ (List.mem_append_left _ (List.mem_append_left _ (List.mem_append_left _ (List.mem_append_left _ (List.mem_append_left _ (List.mem_append_right _ (List.mem_append_right _ (List.mem_append_left _ (h)))))))))))))) (by decide +kernel)
set_option maxRecDepth 20000 in
theorem glX11_passDay_3 : GoodIn wsX11_passDay (wsX11_passDay_r4) := goodIn_sub (fun _ h => List.mem_cons_of_mem _ (List.mem_append_left _ (List.mem_append_left _ (List.mem_append_left _ (List.mem_append_left _ (List.mem_append_left _ (List.mem_append_left _ (List.mem_append_left _ (List.mem_append_left _ (List.mem_append_left _ (List.mem_append_right _ (List.mem_append_right _ (List.mem_append_right _ (List.mem_append_left _ (h))))))))))))))) (by decide +kernel)
set_option maxRecDepth 20000 in
theorem glX11_passDay_4 : GoodIn wsX11_passDay (wsX11_passDay_r5) := goodIn_sub (fun _ h => List.mem_cons_of_mem _ (List.mem_append_left _ (List.mem_append_left _ (List.mem_append_left _ (List.mem_append_left _ (List.mem_append_left _ (List.mem_append_left _ (List.mem_append_left _ (List.mem_append_left _ (List.mem_append_left _ (List.mem_append_right _ (List.mem_append_right _ (List.mem_append_right _ (List.mem_append_right _ (h))))))))))))))) (by decide +kernel)
set_option maxRecDepth 20000 in
theorem glX11_passDay_5 : GoodIn wsX11_passDay (wsX110) := goodIn_sub (fun _ h => List.mem_cons_of_mem _ (List.mem_append_left _ (List.mem_append_left _ (List.mem_append_left _ (List.mem_append_left _ (List.mem_append_left _ (List.mem_append_left _ (List.mem_append_left _ (List.mem_append_left _ (List.mem_append_right _ (h))))))))))) ag_wsX110
set_option maxRecDepth 20000 in
theorem glX11_passDay_8 : GoodIn wsX11_passDay (wsX30) := goodIn_sub (fun _ h => List.mem_cons_of_mem _ (List.mem_append_left _ (List.mem_append_left _ (List.mem_append_left _ (List.mem_append_left _ (List.mem_append_left _ (List.mem_append_right _ (h)))))))) ag_wsX30
set_option maxRecDepth 20000 in
theorem glX11_passDay_9 : GoodIn wsX11_passDay (wsX40) := goodIn_sub (fun _ h => List.mem_cons_of_mem _ (List.mem_append_left _ (List.mem_append_left _ (List.mem_append_left _ (List.mem_append_left _ (List.mem_append_right _ (h))))))) ag_wsX40
set_option maxRecDepth 20000 in
theorem glX11_passDay_10 : GoodIn wsX11_passDay (wsX60) := goodIn_sub (fun _ h => List.mem_cons_of_mem _ (List.mem_append_left _ (List.mem_append_left _ (List.mem_append_left _ (List.mem_append_right _ (h)))))) ag_wsX60
set_option maxRecDepth 20000 in
theorem glX11_passDay_11 : GoodIn wsX11_passDay (wsX100) := goodIn_sub (fun _ h => List.mem_cons_of_mem _ (List.mem_append_left _ (List.mem_append_left _ (List.mem_append_right _ (h))))) ag_wsX100
set_option maxRecDepth 20000 in
theorem glX11_passDay_12 : GoodIn wsX11_passDay (wsX50) := goodIn_sub (fun _ h => List.mem_cons_of_mem _ (List.mem_append_left _ (List.mem_append_right _ (h)))) ag_wsX50
set_option maxRecDepth 20000 in
theorem glX11_passDay_13 : GoodIn wsX11_passDay (wsX00) := goodIn_sub (fun _ h => List.mem_cons_of_mem _ (List.mem_append_right _ (h))) ag_wsX00
set_option maxRecDepth 20000 in
theorem ggX11_passDay_X11_serve : GoodIn wsX11_passDay wsX11_serve := goodIn_c (glX11_passDay_0 _ (List.mem_of_getElem? (i := 17) rfl)) (goodIn_app (goodIn_app (goodIn_app (goodIn_app (goodIn_app (goodIn_app (goodIn_app (goodIn_app (goodIn_app (goodIn_c (glX11_passDay_0 _ (List.mem_of_getElem? (i := 18) rfl)) (goodIn_c (glX11_passDay_0 _ (List.mem_of_getElem? (i := 19) rfl)) (goodIn_c (glX11_passDay_0 _ (List.mem_of_getElem? (i := 20) rfl)) (goodIn_c (glX11_passDay_0 _ (List.mem_of_getElem? (i := 21) rfl)) (goodIn_c (glX11_passDay_0 _ (List.mem_of_getElem? (i := 22) rfl)) (goodIn_c (glX11_passDay_0 _ (List.mem_of_getElem? (i := 23) rfl)) (goodIn_c (glX11_passDay_1 _ (List.mem_of_getElem? (i := 0) rfl)) (goodIn_c (glX11_passDay_1 _ (List.mem_of_getElem? (i := 1) rfl)) (goodIn_c (glX11_passDay_1 _ (List.mem_of_getElem? (i := 2) rfl)) (goodIn_c (glX11_passDay_1 _ (List.mem_of_getElem? (i := 3) rfl)) (goodIn_c (glX11_passDay_0 _ (List.mem_of_getElem? (i := 0) rfl)) (goodIn_c (glX11_passDay_1 _ (List.mem_of_getElem? (i := 4) rfl)) (goodIn_c (glX11_passDay_1 _ (List.mem_of_getElem? (i := 5) rfl)) (goodIn_c (glX11_passDay_1 _ (List.mem_of_getElem? (i := 6) rfl)) (goodIn_c (glX11_passDay_1 _ (List.mem_of_getElem? (i := 7) rfl)) (goodIn_c (glX11_passDay_1 _ (List.mem_of_getElem? (i := 8) rfl)) (goodIn_c (glX11_passDay_1 _ (List.mem_of_getElem? (i := 9) rfl)) (goodIn_c (glX11_passDay_1 _ (List.mem_of_getElem? (i := 10) rfl)) (goodIn_c (glX11_passDay_1 _ (List.mem_of_getElem? (i := 11) rfl)) (goodIn_c (glX11_passDay_1 _ (List.mem_of_getElem? (i := 12) rfl)) (goodIn_c (glX11_passDay_1 _ (List.mem_of_getElem? (i := 13) rfl)) (goodIn_c (glX11_passDay_0 _ (List.mem_of_getElem? (i := 16) rfl)) (goodIn_c (glX11_passDay_1 _ (List.mem_of_getElem? (i := 14) rfl)) (goodIn_c (glX11_passDay_1 _ (List.mem_of_getElem? (i := 15) rfl)) (goodIn_n))))))))))))))))))))))))) (goodIn_app (goodIn_c (glX11_passDay_1 _ (List.mem_of_getElem? (i := 16) rfl)) (goodIn_c (glX11_passDay_1 _ (List.mem_of_getElem? (i := 17) rfl)) (goodIn_c (glX11_passDay_1 _ (List.mem_of_getElem? (i := 18) rfl)) (goodIn_c (glX11_passDay_1 _ (List.mem_of_getElem? (i := 19) rfl)) (goodIn_c (glX11_passDay_1 _ (List.mem_of_getElem? (i := 20) rfl)) (goodIn_c (glX11_passDay_1 _ (List.mem_of_getElem? (i := 21) rfl)) (goodIn_c (glX11_passDay_1 _ (List.mem_of_getElem? (i := 22) rfl)) (goodIn_c (glX11_passDay_1 _ (List.mem_of_getElem? (i := 23) rfl)) (goodIn_c (glX11_passDay_2 _ (List.mem_of_getElem? (i := 0) rfl)) (goodIn_c (glX11_passDay_2 _ (List.mem_of_getElem? (i := 1) rfl)) (goodIn_c (glX11_passDay_2 _ (List.mem_of_getElem? (i := 2) rfl)) (goodIn_c (glX11_passDay_2 _ (List.mem_of_getElem? (i := 3) rfl)) (goodIn_c (glX11_passDay_2 _ (List.mem_of_getElem? (i := 4) rfl)) (goodIn_c (glX11_passDay_2 _ (List.mem_of_getElem? (i := 5) rfl)) (goodIn_c (glX11_passDay_2 _ (List.mem_of_getElem? (i := 6) rfl)) (goodIn_c (glX11_passDay_2 _ (List.mem_of_getElem? (i := 7) rfl)) (goodIn_c (glX11_passDay_2 _ (List.mem_of_getElem? (i := 8) rfl)) (goodIn_c (glX11_passDay_2 _ (List.mem_of_getElem? (i := 9) rfl)) (goodIn_c (glX11_passDay_2 _ (List.mem_of_getElem? (i := 10) rfl)) (goodIn_c (glX11_passDay_2 _ (List.mem_of_getElem? (i := 11) rfl)) (goodIn_c (glX11_passDay_2 _ (List.mem_of_getElem? (i := 12) rfl)) (goodIn_c (glX11_passDay_2 _ (List.mem_of_getElem? (i := 13) rfl)) (goodIn_c (glX11_passDay_2 _ (List.mem_of_getElem? (i := 14) rfl)) (goodIn_c (glX11_passDay_2 _ (List.mem_of_getElem? (i := 15) rfl)) (goodIn_n))))))))))))))))))))))))) (goodIn_app (goodIn_c (glX11_passDay_2 _ (List.mem_of_getElem? (i := 16) rfl)) (goodIn_c (glX11_passDay_2 _ (List.mem_of_getElem? (i := 17) rfl)) (goodIn_c (glX11_passDay_2 _ (List.mem_of_getElem? (i := 18) rfl)) (goodIn_c (glX11_passDay_2 _ (List.mem_of_getElem? (i := 19) rfl)) (goodIn_c (glX11_passDay_2 _ (List.mem_of_getElem? (i := 20) rfl)) (goodIn_c (glX11_passDay_2 _ (List.mem_of_getElem? (i := 21) rfl)) (goodIn_c (glX11_passDay_2 _ (List.mem_of_getElem? (i := 22) rfl)) (goodIn_c (glX11_passDay_2 _ (List.mem_of_getElem? (i := 23) rfl)) (goodIn_c (glX11_passDay_3 _ (List.mem_of_getElem? (i := 0) rfl)) (goodIn_c (glX11_passDay_3 _ (List.mem_of_getElem? (i := 1) rfl)) (goodIn_c (glX11_passDay_3 _ (List.mem_of_getElem? (i := 2) rfl)) (goodIn_c (glX11_passDay_3 _ (List.mem_of_getElem? (i := 3) rfl)) (goodIn_c (glX11_passDay_3 _ (List.mem_of_getElem? (i := 4) rfl)) (goodIn_c (glX11_passDay_3 _ (List.mem_of_getElem? (i := 5) rfl)) (goodIn_c (glX11_passDay_3 _ (List.mem_of_getElem? (i := 6) rfl)) (goodIn_c (glX11_passDay_3 _ (List.mem_of_getElem? (i := 7) rfl)) (goodIn_c (glX11_passDay_3 _ (List.mem_of_getElem? (i := 8) rfl)) (goodIn_c (glX11_passDay_3 _ (List.mem_of_getElem? (i := 9) rfl)) (goodIn_c (glX11_passDay_3 _ (List.mem_of_getElem? (i := 10) rfl)) (goodIn_c (glX11_passDay_3 _ (List.mem_of_getElem? (i := 11) rfl)) (goodIn_c (glX11_passDay_3 _ (List.mem_of_getElem? (i := 12) rfl)) (goodIn_c (glX11_passDay_3 _ (List.mem_of_getElem? (i := 13) rfl)) (goodIn_c (glX11_passDay_3 _ (List.mem_of_getElem? (i := 14) rfl)) (goodIn_c (glX11_passDay_3 _ (List.mem_of_getElem? (i := 15) rfl)) (goodIn_n))))))))))))))))))))))))) (goodIn_c (glX11_passDay_3 _ (List.mem_of_getElem? (i := 16) rfl)) (goodIn_c (glX11_passDay_3 _ (List.mem_of_getElem? (i := 17) rfl)) (goodIn_c (glX11_passDay_3 _ (List.mem_of_getElem? (i := 18) rfl)) (goodIn_c (glX11_passDay_3 _ (List.mem_of_getElem? (i := 19) rfl)) (goodIn_c (glX11_passDay_3 _ (List.mem_of_getElem? (i := 20) rfl)) (goodIn_c (glX11_passDay_3 _ (List.mem_of_getElem? (i := 21) rfl)) (goodIn_c (glX11_passDay_3 _ (List.mem_of_getElem? (i := 22) rfl)) (goodIn_c (glX11_passDay_3 _ (List.mem_of_getElem? (i := 23) rfl)) (goodIn_c (glX11_passDay_4 _ (List.mem_of_getElem? (i := 0) rfl)) (goodIn_c (glX11_passDay_4 _ (List.mem_of_getElem? (i := 1) rfl)) (goodIn_c (glX11_passDay_4 _ (List.mem_of_getElem? (i := 2) rfl)) (goodIn_c (glX11_passDay_4 _ (List.mem_of_getElem? (i := 3) rfl)) (goodIn_c (glX11_passDay_4 _ (List.mem_of_getElem? (i := 4) rfl)) (goodIn_c (glX11_passDay_4 _ (List.mem_of_getElem? (i := 5) rfl)) (goodIn_c (glX11_passDay_4 _ (List.mem_of_getElem? (i := 6) rfl)) (goodIn_c (glX11_passDay_4 _ (List.mem_of_getElem? (i := 7) rfl)) (goodIn_c (glX11_passDay_4 _ (List.mem_of_getElem? (i := 8) rfl)) (goodIn_c (glX11_passDay_4 _ (List.mem_of_getElem? (i := 9) rfl)) (goodIn_c (glX11_passDay_4 _ (List.mem_of_getElem? (i := 10) rfl)) (goodIn_n))))))))))))))))))))))) (glX11_passDay_5)) (glX11_passDay_8)) (glX11_passDay_9)) (glX11_passDay_10)) (glX11_passDay_11)) (glX11_passDay_7)) (glX11_passDay_12)) (glX11_passDay_13))
set_option maxRecDepth 20000 in
theorem gX11_passDay_X11_serve : GoodIn wsX11_passDay (wsV RX11 503 RX11 yX11_serve wsX11_serve) := goodIn_app (goodIn_c (glX11_passDay_0 _ (List.mem_of_getElem? (i := 13) rfl)) (goodIn_c (glX11_passDay_0 _ (List.mem_of_getElem? (i := 14) rfl)) (goodIn_c (glX11_passDay_0 _ (List.mem_of_getElem? (i := 15) rfl)) (goodIn_c (glX11_passDay_0 _ (List.mem_of_getElem? (i := 16) rfl)) (goodIn_n))))) ggX11_passDay_X11_serve
theorem dX11_passDay_0 : decode cX11_passDay 0 = .ok (.aload_n 0, 1) := qdE42 (by decide +kernel)
theorem dX11_passDay_1 : decode cX11_passDay 1 = .ok (.getfield 136, 3) := qdE180 (by decide +kernel)
theorem dX11_passDay_4 : decode cX11_passDay 4 = .ok (.sipush 999, 3) := qdE17 (by decide +kernel)
theorem dX11_passDay_7 : decode cX11_passDay 7 = .ok (.if_icmp .ge 13, 3) := qdE162 (by decide +kernel)
theorem dX11_passDay_10 : decode cX11_passDay 10 = .ok (.aload_n 0, 1) := qdE42 (by decide +kernel)
theorem dX11_passDay_11 : decode cX11_passDay 11 = .ok (.dup, 1) := qdE89 (by decide +kernel)
theorem dX11_passDay_12 : decode cX11_passDay 12 = .ok (.getfield 136, 3) := qdE180 (by decide +kernel)
theorem dX11_passDay_15 : decode cX11_passDay 15 = .ok (.iconst 1, 1) := qdE4 (by decide +kernel)
theorem dX11_passDay_16 : decode cX11_passDay 16 = .ok (.iadd, 1) := qdE96 (by decide +kernel)
theorem dX11_passDay_17 : decode cX11_passDay 17 = .ok (.putfield 136, 3) := qdE181 (by decide +kernel)
theorem dX11_passDay_20 : decode cX11_passDay 20 = .ok (.aload_n 0, 1) := qdE42 (by decide +kernel)
theorem dX11_passDay_21 : decode cX11_passDay 21 = .ok (.getfield 26, 3) := qdE180 (by decide +kernel)
theorem dX11_passDay_24 : decode cX11_passDay 24 = .ok (.aload_n 0, 1) := qdE42 (by decide +kernel)
theorem dX11_passDay_25 : decode cX11_passDay 25 = .ok (.getfield 136, 3) := qdE180 (by decide +kernel)
theorem dX11_passDay_28 : decode cX11_passDay 28 = .ok (.invokevirtual 500, 3) := qdE182 (by decide +kernel)
theorem dX11_passDay_31 : decode cX11_passDay 31 = .ok (.iconst 0, 1) := qdE3 (by decide +kernel)
theorem dX11_passDay_32 : decode cX11_passDay 32 = .ok (.istore_n 1, 1) := qdE60 (by decide +kernel)
theorem dX11_passDay_33 : decode cX11_passDay 33 = .ok (.iload_n 1, 1) := qdE27 (by decide +kernel)
theorem dX11_passDay_34 : decode cX11_passDay 34 = .ok (.aload_n 0, 1) := qdE42 (by decide +kernel)
theorem dX11_passDay_35 : decode cX11_passDay 35 = .ok (.getfield 366, 3) := qdE180 (by decide +kernel)
theorem dX11_passDay_38 : decode cX11_passDay 38 = .ok (.if_icmp .ge 14, 3) := qdE162 (by decide +kernel)
theorem dX11_passDay_41 : decode cX11_passDay 41 = .ok (.aload_n 0, 1) := qdE42 (by decide +kernel)
theorem dX11_passDay_42 : decode cX11_passDay 42 = .ok (.iload_n 1, 1) := qdE27 (by decide +kernel)
theorem dX11_passDay_43 : decode cX11_passDay 43 = .ok (.invokevirtual 503, 3) := qdE182 (by decide +kernel)
theorem dX11_passDay_46 : decode cX11_passDay 46 = .ok (.iinc 1 1, 3) := qdE132 (by decide +kernel)
theorem dX11_passDay_49 : decode cX11_passDay 49 = .ok (.goto (-16), 3) := qdE167 (by decide +kernel)
theorem dX11_passDay_52 : decode cX11_passDay 52 = .ok (.return_, 1) := qdE177 (by decide +kernel)
set_option maxRecDepth 20000 in
theorem glX11_serve_0 : GoodIn wsX11_serve (wsX11_serve_r1) := goodIn_sub (fun _ h => List.mem_cons_of_mem _ (List.mem_append_left _ (List.mem_append_left _ (List.mem_append_left _ (List.mem_append_left _ (List.mem_append_left _ (List.mem_append_left _ (List.mem_append_left _ (List.mem_append_left _ (List.mem_append_left _ (h))))))))))) (by decide +kernel)
set_option maxRecDepth 20000 in
theorem glX11_serve_6 : GoodIn wsX11_serve (wsX40) := goodIn_sub (fun _ h => List.mem_cons_of_mem _ (List.mem_append_left _ (List.mem_append_left _ (List.mem_append_left _ (List.mem_append_left _ (List.mem_append_left _ (List.mem_append_right _ (h)))))))) ag_wsX40
set_option maxRecDepth 20000 in
theorem ggX11_serve_X4_clear : GoodIn wsX11_serve wsX4_clear := goodIn_c (glX11_serve_0 _ (List.mem_of_getElem? (i := 15) rfl)) (goodIn_app (goodIn_c (glX11_serve_0 _ (List.mem_of_getElem? (i := 16) rfl)) (goodIn_c (glX11_serve_0 _ (List.mem_of_getElem? (i := 17) rfl)) (goodIn_n))) (glX11_serve_6))
set_option maxRecDepth 20000 in
theorem gX11_serve_X4_clear : GoodIn wsX11_serve (wsV RX11 506 RX4 yX4_clear wsX4_clear) := goodIn_app (goodIn_c (glX11_serve_0 _ (List.mem_of_getElem? (i := 11) rfl)) (goodIn_c (glX11_serve_0 _ (List.mem_of_getElem? (i := 12) rfl)) (goodIn_c (glX11_serve_0 _ (List.mem_of_getElem? (i := 13) rfl)) (goodIn_c (glX11_serve_0 _ (List.mem_of_getElem? (i := 14) rfl)) (goodIn_n))))) ggX11_serve_X4_clear
set_option maxRecDepth 20000 in
theorem glX11_serve_1 : GoodIn wsX11_serve (wsX11_serve_r2) := goodIn_sub (fun _ h => List.mem_cons_of_mem _ (List.mem_append_left _ (List.mem_append_left _ (List.mem_append_left _ (List.mem_append_left _ (List.mem_append_left _ (List.mem_append_left _ (List.mem_append_left _ (List.mem_append_left _ (List.mem_append_right _ (List.mem_append_left _ (h)))))))))))) (by decide +kernel)
set_option maxRecDepth 20000 in
theorem glX11_serve_2 : GoodIn wsX11_serve (wsX11_serve_r3) := goodIn_sub (fun _ h => List.mem_cons_of_mem _ (List.mem_append_left _ (List.mem_append_left _ (List.mem_append_left _ (List.mem_append_left _ (List.mem_append_left _ (List.mem_append_left _ (List.mem_append_left _ (List.mem_append_left _ (List.mem_append_right _ (List.mem_append_right _ (List.mem_append_left _ (h))))))))))))) (by decide +kernel)
set_option maxRecDepth 20000 in
theorem glX11_serve_3 : GoodIn wsX11_serve (wsX11_serve_r4) := goodIn_sub (fun _ h => List.mem_cons_of_mem _ (List.mem_append_left _ (List.mem_append_left _ (List.mem_append_left _ (List.mem_append_left _ (List.mem_append_left _ (List.mem_append_left _ (List.mem_append_left _ (List.mem_append_left _ (List.mem_append_right _ (List.mem_append_right _ (List.mem_append_right _ (h))))))))))))) (by decide +kernel)
set_option maxRecDepth 20000 in
theorem glX11_serve_8 : GoodIn wsX11_serve (wsX100) := goodIn_sub (fun _ h => List.mem_cons_of_mem _ (List.mem_append_left _ (List.mem_append_left _ (List.mem_append_left _ (List.mem_append_right _ (h)))))) ag_wsX100
set_option maxRecDepth 20000 in
theorem glX11_serve_9 : GoodIn wsX11_serve (wsX80) := goodIn_sub (fun _ h => List.mem_cons_of_mem _ (List.mem_append_left _ (List.mem_append_left _ (List.mem_append_right _ (h))))) ag_wsX80
set_option maxRecDepth 20000 in
theorem glX11_serve_4 : GoodIn wsX11_serve (wsX110) := goodIn_sub (fun _ h => List.mem_cons_of_mem _ (List.mem_append_left _ (List.mem_append_left _ (List.mem_append_left _ (List.mem_append_left _ (List.mem_append_left _ (List.mem_append_left _ (List.mem_append_left _ (List.mem_append_right _ (h)))))))))) ag_wsX110
set_option maxRecDepth 20000 in
theorem glX11_serve_5 : GoodIn wsX11_serve (wsX30) := goodIn_sub (fun _ h => List.mem_cons_of_mem _ (List.mem_append_left _ (List.mem_append_left _ (List.mem_append_left _ (List.mem_append_left _ (List.mem_append_left _ (List.mem_append_left _ (List.mem_append_right _ (h))))))))) ag_wsX30
set_option maxRecDepth 20000 in
theorem glX11_serve_10 : GoodIn wsX11_serve (wsX50) := goodIn_sub (fun _ h => List.mem_cons_of_mem _ (List.mem_append_left _ (List.mem_append_right _ (h)))) ag_wsX50
set_option maxRecDepth 20000 in
theorem glX11_serve_11 : GoodIn wsX11_serve (wsX00) := goodIn_sub (fun _ h => List.mem_cons_of_mem _ (List.mem_append_right _ (h))) ag_wsX00
set_option maxRecDepth 20000 in
theorem ggX11_serve_X11_serveWant : GoodIn wsX11_serve wsX11_serveWant := goodIn_c (glX11_serve_0 _ (List.mem_of_getElem? (i := 22) rfl)) (goodIn_app (goodIn_app (goodIn_app (goodIn_app (goodIn_app (goodIn_app (goodIn_app (goodIn_app (goodIn_c (glX11_serve_0 _ (List.mem_of_getElem? (i := 23) rfl)) (goodIn_c (glX11_serve_1 _ (List.mem_of_getElem? (i := 0) rfl)) (goodIn_c (glX11_serve_1 _ (List.mem_of_getElem? (i := 1) rfl)) (goodIn_c (glX11_serve_1 _ (List.mem_of_getElem? (i := 2) rfl)) (goodIn_c (glX11_serve_1 _ (List.mem_of_getElem? (i := 3) rfl)) (goodIn_c (glX11_serve_1 _ (List.mem_of_getElem? (i := 4) rfl)) (goodIn_c (glX11_serve_1 _ (List.mem_of_getElem? (i := 5) rfl)) (goodIn_c (glX11_serve_0 _ (List.mem_of_getElem? (i := 10) rfl)) (goodIn_c (glX11_serve_1 _ (List.mem_of_getElem? (i := 6) rfl)) (goodIn_c (glX11_serve_1 _ (List.mem_of_getElem? (i := 7) rfl)) (goodIn_c (glX11_serve_1 _ (List.mem_of_getElem? (i := 8) rfl)) (goodIn_c (glX11_serve_1 _ (List.mem_of_getElem? (i := 9) rfl)) (goodIn_c (glX11_serve_1 _ (List.mem_of_getElem? (i := 10) rfl)) (goodIn_c (glX11_serve_1 _ (List.mem_of_getElem? (i := 11) rfl)) (goodIn_c (glX11_serve_1 _ (List.mem_of_getElem? (i := 12) rfl)) (goodIn_c (glX11_serve_1 _ (List.mem_of_getElem? (i := 13) rfl)) (goodIn_c (glX11_serve_1 _ (List.mem_of_getElem? (i := 14) rfl)) (goodIn_c (glX11_serve_1 _ (List.mem_of_getElem? (i := 15) rfl)) (goodIn_c (glX11_serve_1 _ (List.mem_of_getElem? (i := 16) rfl)) (goodIn_c (glX11_serve_1 _ (List.mem_of_getElem? (i := 17) rfl)) (goodIn_c (glX11_serve_1 _ (List.mem_of_getElem? (i := 18) rfl)) (goodIn_c (glX11_serve_1 _ (List.mem_of_getElem? (i := 19) rfl)) (goodIn_c (glX11_serve_1 _ (List.mem_of_getElem? (i := 20) rfl)) (goodIn_c (glX11_serve_0 _ (List.mem_of_getElem? (i := 21) rfl)) (goodIn_n))))))))))))))))))))))))) (goodIn_app (goodIn_c (glX11_serve_1 _ (List.mem_of_getElem? (i := 21) rfl)) (goodIn_c (glX11_serve_1 _ (List.mem_of_getElem? (i := 22) rfl)) (goodIn_c (glX11_serve_0 _ (List.mem_of_getElem? (i := 1) rfl)) (goodIn_c (glX11_serve_1 _ (List.mem_of_getElem? (i := 23) rfl)) (goodIn_c (glX11_serve_2 _ (List.mem_of_getElem? (i := 0) rfl)) (goodIn_c (glX11_serve_2 _ (List.mem_of_getElem? (i := 1) rfl)) (goodIn_c (glX11_serve_2 _ (List.mem_of_getElem? (i := 2) rfl)) (goodIn_c (glX11_serve_0 _ (List.mem_of_getElem? (i := 14) rfl)) (goodIn_c (glX11_serve_2 _ (List.mem_of_getElem? (i := 3) rfl)) (goodIn_c (glX11_serve_0 _ (List.mem_of_getElem? (i := 16) rfl)) (goodIn_c (glX11_serve_2 _ (List.mem_of_getElem? (i := 4) rfl)) (goodIn_c (glX11_serve_2 _ (List.mem_of_getElem? (i := 5) rfl)) (goodIn_c (glX11_serve_0 _ (List.mem_of_getElem? (i := 17) rfl)) (goodIn_c (glX11_serve_2 _ (List.mem_of_getElem? (i := 6) rfl)) (goodIn_c (glX11_serve_2 _ (List.mem_of_getElem? (i := 7) rfl)) (goodIn_c (glX11_serve_2 _ (List.mem_of_getElem? (i := 8) rfl)) (goodIn_c (glX11_serve_2 _ (List.mem_of_getElem? (i := 9) rfl)) (goodIn_c (glX11_serve_2 _ (List.mem_of_getElem? (i := 10) rfl)) (goodIn_c (glX11_serve_2 _ (List.mem_of_getElem? (i := 11) rfl)) (goodIn_c (glX11_serve_2 _ (List.mem_of_getElem? (i := 12) rfl)) (goodIn_c (glX11_serve_2 _ (List.mem_of_getElem? (i := 13) rfl)) (goodIn_c (glX11_serve_2 _ (List.mem_of_getElem? (i := 14) rfl)) (goodIn_c (glX11_serve_2 _ (List.mem_of_getElem? (i := 15) rfl)) (goodIn_c (glX11_serve_2 _ (List.mem_of_getElem? (i := 16) rfl)) (goodIn_n))))))))))))))))))))))))) (goodIn_c (glX11_serve_2 _ (List.mem_of_getElem? (i := 17) rfl)) (goodIn_c (glX11_serve_2 _ (List.mem_of_getElem? (i := 18) rfl)) (goodIn_c (glX11_serve_2 _ (List.mem_of_getElem? (i := 19) rfl)) (goodIn_c (glX11_serve_2 _ (List.mem_of_getElem? (i := 20) rfl)) (goodIn_c (glX11_serve_2 _ (List.mem_of_getElem? (i := 21) rfl)) (goodIn_c (glX11_serve_2 _ (List.mem_of_getElem? (i := 22) rfl)) (goodIn_c (glX11_serve_2 _ (List.mem_of_getElem? (i := 23) rfl)) (goodIn_c (glX11_serve_3 _ (List.mem_of_getElem? (i := 0) rfl)) (goodIn_c (glX11_serve_3 _ (List.mem_of_getElem? (i := 1) rfl)) (goodIn_c (glX11_serve_3 _ (List.mem_of_getElem? (i := 2) rfl)) (goodIn_n))))))))))))) (glX11_serve_8)) (glX11_serve_9)) (glX11_serve_4)) (glX11_serve_5)) (glX11_serve_10)) (glX11_serve_6)) (glX11_serve_11))
set_option maxRecDepth 20000 in
theorem gX11_serve_X11_serveWant : GoodIn wsX11_serve (wsV RX11 509 RX11 yX11_serveWant wsX11_serveWant) := goodIn_app (goodIn_c (glX11_serve_0 _ (List.mem_of_getElem? (i := 18) rfl)) (goodIn_c (glX11_serve_0 _ (List.mem_of_getElem? (i := 19) rfl)) (goodIn_c (glX11_serve_0 _ (List.mem_of_getElem? (i := 20) rfl)) (goodIn_c (glX11_serve_0 _ (List.mem_of_getElem? (i := 21) rfl)) (goodIn_n))))) ggX11_serve_X11_serveWant
set_option maxRecDepth 20000 in
theorem ggX11_serve_X4_parcels : GoodIn wsX11_serve wsX4_parcels := goodIn_c (glX11_serve_3 _ (List.mem_of_getElem? (i := 6) rfl)) (goodIn_app (goodIn_c (glX11_serve_0 _ (List.mem_of_getElem? (i := 16) rfl)) (goodIn_c (glX11_serve_2 _ (List.mem_of_getElem? (i := 4) rfl)) (goodIn_c (glX11_serve_2 _ (List.mem_of_getElem? (i := 5) rfl)) (goodIn_c (glX11_serve_3 _ (List.mem_of_getElem? (i := 7) rfl)) (goodIn_c (glX11_serve_3 _ (List.mem_of_getElem? (i := 8) rfl)) (goodIn_c (glX11_serve_1 _ (List.mem_of_getElem? (i := 2) rfl)) (goodIn_c (glX11_serve_1 _ (List.mem_of_getElem? (i := 3) rfl)) (goodIn_c (glX11_serve_1 _ (List.mem_of_getElem? (i := 4) rfl)) (goodIn_n))))))))) (glX11_serve_6))
set_option maxRecDepth 20000 in
theorem gX11_serve_X4_parcels : GoodIn wsX11_serve (wsV RX11 514 RX4 yX4_parcels wsX4_parcels) := goodIn_app (goodIn_c (glX11_serve_3 _ (List.mem_of_getElem? (i := 3) rfl)) (goodIn_c (glX11_serve_3 _ (List.mem_of_getElem? (i := 4) rfl)) (goodIn_c (glX11_serve_3 _ (List.mem_of_getElem? (i := 5) rfl)) (goodIn_c (glX11_serve_0 _ (List.mem_of_getElem? (i := 14) rfl)) (goodIn_n))))) ggX11_serve_X4_parcels
set_option maxRecDepth 20000 in
theorem glX11_serve_7 : GoodIn wsX11_serve (wsX60) := goodIn_sub (fun _ h => List.mem_cons_of_mem _ (List.mem_append_left _ (List.mem_append_left _ (List.mem_append_left _ (List.mem_append_left _ (List.mem_append_right _ (h))))))) ag_wsX60
set_option maxRecDepth 20000 in
theorem ggX11_serve_X6_init : GoodIn wsX11_serve wsX6_init := goodIn_c (glX11_serve_3 _ (List.mem_of_getElem? (i := 11) rfl)) (goodIn_app (goodIn_c (glX11_serve_3 _ (List.mem_of_getElem? (i := 12) rfl)) (goodIn_c (glX11_serve_3 _ (List.mem_of_getElem? (i := 13) rfl)) (goodIn_c (glX11_serve_3 _ (List.mem_of_getElem? (i := 14) rfl)) (goodIn_c (glX11_serve_3 _ (List.mem_of_getElem? (i := 15) rfl)) (goodIn_c (glX11_serve_3 _ (List.mem_of_getElem? (i := 16) rfl)) (goodIn_c (glX11_serve_3 _ (List.mem_of_getElem? (i := 17) rfl)) (goodIn_c (glX11_serve_3 _ (List.mem_of_getElem? (i := 18) rfl)) (goodIn_n)))))))) (glX11_serve_7))
set_option maxRecDepth 20000 in
theorem gX11_serve_X6_init : GoodIn wsX11_serve (wsX6_init) := ggX11_serve_X6_init
theorem dX11_serve_0 : decode cX11_serve 0 = .ok (.aload_n 0, 1) := qdE42 (by decide +kernel)
theorem dX11_serve_1 : decode cX11_serve 1 = .ok (.getfield 48, 3) := qdE180 (by decide +kernel)
theorem dX11_serve_4 : decode cX11_serve 4 = .ok (.iload_n 1, 1) := qdE27 (by decide +kernel)
theorem dX11_serve_5 : decode cX11_serve 5 = .ok (.aaload, 1) := qdE50 (by decide +kernel)
theorem dX11_serve_6 : decode cX11_serve 6 = .ok (.astore_n 2, 1) := qdE77 (by decide +kernel)
theorem dX11_serve_7 : decode cX11_serve 7 = .ok (.aload_n 0, 1) := qdE42 (by decide +kernel)
theorem dX11_serve_8 : decode cX11_serve 8 = .ok (.getfield 61, 3) := qdE180 (by decide +kernel)
theorem dX11_serve_11 : decode cX11_serve 11 = .ok (.invokevirtual 506, 3) := qdE182 (by decide +kernel)
theorem dX11_serve_14 : decode cX11_serve 14 = .ok (.iconst 0, 1) := qdE3 (by decide +kernel)
theorem dX11_serve_15 : decode cX11_serve 15 = .ok (.istore_n 3, 1) := qdE62 (by decide +kernel)
theorem dX11_serve_16 : decode cX11_serve 16 = .ok (.iload_n 3, 1) := qdE29 (by decide +kernel)
theorem dX11_serve_17 : decode cX11_serve 17 = .ok (.aload_n 2, 1) := qdE44 (by decide +kernel)
theorem dX11_serve_18 : decode cX11_serve 18 = .ok (.getfield 259, 3) := qdE180 (by decide +kernel)
theorem dX11_serve_21 : decode cX11_serve 21 = .ok (.if_icmp .ge 20, 3) := qdE162 (by decide +kernel)
theorem dX11_serve_24 : decode cX11_serve 24 = .ok (.aload_n 0, 1) := qdE42 (by decide +kernel)
theorem dX11_serve_25 : decode cX11_serve 25 = .ok (.aload_n 2, 1) := qdE44 (by decide +kernel)
theorem dX11_serve_26 : decode cX11_serve 26 = .ok (.aload_n 2, 1) := qdE44 (by decide +kernel)
theorem dX11_serve_27 : decode cX11_serve 27 = .ok (.getfield 389, 3) := qdE180 (by decide +kernel)
theorem dX11_serve_30 : decode cX11_serve 30 = .ok (.iload_n 3, 1) := qdE29 (by decide +kernel)
theorem dX11_serve_31 : decode cX11_serve 31 = .ok (.aaload, 1) := qdE50 (by decide +kernel)
theorem dX11_serve_32 : decode cX11_serve 32 = .ok (.invokevirtual 509, 3) := qdE182 (by decide +kernel)
theorem dX11_serve_35 : decode cX11_serve 35 = .ok (.iinc 3 1, 3) := qdE132 (by decide +kernel)
theorem dX11_serve_38 : decode cX11_serve 38 = .ok (.goto (-22), 3) := qdE167 (by decide +kernel)
theorem dX11_serve_41 : decode cX11_serve 41 = .ok (.aload_n 0, 1) := qdE42 (by decide +kernel)
theorem dX11_serve_42 : decode cX11_serve 42 = .ok (.getfield 61, 3) := qdE180 (by decide +kernel)
theorem dX11_serve_45 : decode cX11_serve 45 = .ok (.getfield 513, 3) := qdE180 (by decide +kernel)
theorem dX11_serve_48 : decode cX11_serve 48 = .ok (.ifCond .le 58, 3) := qdE158 (by decide +kernel)
theorem dX11_serve_51 : decode cX11_serve 51 = .ok (.aload_n 0, 1) := qdE42 (by decide +kernel)
theorem dX11_serve_52 : decode cX11_serve 52 = .ok (.getfield 319, 3) := qdE180 (by decide +kernel)
theorem dX11_serve_55 : decode cX11_serve 55 = .ok (.sipush 300, 3) := qdE17 (by decide +kernel)
theorem dX11_serve_58 : decode cX11_serve 58 = .ok (.if_icmp .ge 48, 3) := qdE162 (by decide +kernel)
theorem dX11_serve_61 : decode cX11_serve 61 = .ok (.aload_n 0, 1) := qdE42 (by decide +kernel)
theorem dX11_serve_62 : decode cX11_serve 62 = .ok (.getfield 54, 3) := qdE180 (by decide +kernel)
theorem dX11_serve_65 : decode cX11_serve 65 = .ok (.aload_n 0, 1) := qdE42 (by decide +kernel)
theorem dX11_serve_66 : decode cX11_serve 66 = .ok (.getfield 319, 3) := qdE180 (by decide +kernel)
theorem dX11_serve_69 : decode cX11_serve 69 = .ok (.new 52, 3) := qdE187 (by decide +kernel)
theorem dX11_serve_72 : decode cX11_serve 72 = .ok (.dup, 1) := qdE89 (by decide +kernel)
theorem dX11_serve_73 : decode cX11_serve 73 = .ok (.iload_n 1, 1) := qdE27 (by decide +kernel)
theorem dX11_serve_74 : decode cX11_serve 74 = .ok (.aload_n 0, 1) := qdE42 (by decide +kernel)
theorem dX11_serve_75 : decode cX11_serve 75 = .ok (.getfield 136, 3) := qdE180 (by decide +kernel)
theorem dX11_serve_78 : decode cX11_serve 78 = .ok (.aload_n 0, 1) := qdE42 (by decide +kernel)
theorem dX11_serve_79 : decode cX11_serve 79 = .ok (.getfield 61, 3) := qdE180 (by decide +kernel)
theorem dX11_serve_82 : decode cX11_serve 82 = .ok (.getfield 513, 3) := qdE180 (by decide +kernel)
theorem dX11_serve_85 : decode cX11_serve 85 = .ok (.aload_n 0, 1) := qdE42 (by decide +kernel)
theorem dX11_serve_86 : decode cX11_serve 86 = .ok (.getfield 61, 3) := qdE180 (by decide +kernel)
theorem dX11_serve_89 : decode cX11_serve 89 = .ok (.invokevirtual 514, 3) := qdE182 (by decide +kernel)
theorem dX11_serve_92 : decode cX11_serve 92 = .ok (.invokespecial 516, 3) := qdE183 (by decide +kernel)
theorem dX11_serve_95 : decode cX11_serve 95 = .ok (.aastore, 1) := qdE83 (by decide +kernel)
theorem dX11_serve_96 : decode cX11_serve 96 = .ok (.aload_n 0, 1) := qdE42 (by decide +kernel)
theorem dX11_serve_97 : decode cX11_serve 97 = .ok (.dup, 1) := qdE89 (by decide +kernel)
theorem dX11_serve_98 : decode cX11_serve 98 = .ok (.getfield 319, 3) := qdE180 (by decide +kernel)
theorem dX11_serve_101 : decode cX11_serve 101 = .ok (.iconst 1, 1) := qdE4 (by decide +kernel)
theorem dX11_serve_102 : decode cX11_serve 102 = .ok (.iadd, 1) := qdE96 (by decide +kernel)
theorem dX11_serve_103 : decode cX11_serve 103 = .ok (.putfield 319, 3) := qdE181 (by decide +kernel)
theorem dX11_serve_106 : decode cX11_serve 106 = .ok (.return_, 1) := qdE177 (by decide +kernel)
set_option maxRecDepth 20000 in
theorem glX11_serveWant_0 : GoodIn wsX11_serveWant (wsX11_serveWant_r1) := goodIn_sub (fun _ h => List.mem_cons_of_mem _ (List.mem_append_left _ (List.mem_append_left _ (List.mem_append_left _ (List.mem_append_left _ (List.mem_append_left _ (List.mem_append_left _ (List.mem_append_left _ (List.mem_append_left _ (h)))))))))) (by decide +kernel)
set_option maxRecDepth 20000 in
theorem glX11_serveWant_3 : GoodIn wsX11_serveWant (wsX100) := goodIn_sub (fun _ h => List.mem_cons_of_mem _ (List.mem_append_left _ (List.mem_append_left _ (List.mem_append_left _ (List.mem_append_left _ (List.mem_append_left _ (List.mem_append_left _ (List.mem_append_right _ (h))))))))) ag_wsX100
set_option maxRecDepth 20000 in
theorem ggX11_serveWant_X10_left : GoodIn wsX11_serveWant wsX10_left := goodIn_c (glX11_serveWant_0 _ (List.mem_of_getElem? (i := 15) rfl)) (goodIn_app (goodIn_c (glX11_serveWant_0 _ (List.mem_of_getElem? (i := 16) rfl)) (goodIn_c (glX11_serveWant_0 _ (List.mem_of_getElem? (i := 17) rfl)) (goodIn_c (glX11_serveWant_0 _ (List.mem_of_getElem? (i := 18) rfl)) (goodIn_c (glX11_serveWant_0 _ (List.mem_of_getElem? (i := 19) rfl)) (goodIn_n))))) (glX11_serveWant_3))
set_option maxRecDepth 20000 in
theorem gX11_serveWant_X10_left : GoodIn wsX11_serveWant (wsV RX11 517 RX10 yX10_left wsX10_left) := goodIn_app (goodIn_c (glX11_serveWant_0 _ (List.mem_of_getElem? (i := 11) rfl)) (goodIn_c (glX11_serveWant_0 _ (List.mem_of_getElem? (i := 12) rfl)) (goodIn_c (glX11_serveWant_0 _ (List.mem_of_getElem? (i := 13) rfl)) (goodIn_c (glX11_serveWant_0 _ (List.mem_of_getElem? (i := 14) rfl)) (goodIn_n))))) ggX11_serveWant_X10_left
set_option maxRecDepth 20000 in
theorem glX11_serveWant_1 : GoodIn wsX11_serveWant (wsX11_serveWant_r2) := goodIn_sub (fun _ h => List.mem_cons_of_mem _ (List.mem_append_left _ (List.mem_append_left _ (List.mem_append_left _ (List.mem_append_left _ (List.mem_append_left _ (List.mem_append_left _ (List.mem_append_left _ (List.mem_append_right _ (List.mem_append_left _ (h))))))))))) (by decide +kernel)
set_option maxRecDepth 20000 in
theorem glX11_serveWant_4 : GoodIn wsX11_serveWant (wsX80) := goodIn_sub (fun _ h => List.mem_cons_of_mem _ (List.mem_append_left _ (List.mem_append_left _ (List.mem_append_left _ (List.mem_append_left _ (List.mem_append_left _ (List.mem_append_right _ (h)))))))) ag_wsX80
set_option maxRecDepth 20000 in
theorem glX11_serveWant_5 : GoodIn wsX11_serveWant (wsX110) := goodIn_sub (fun _ h => List.mem_cons_of_mem _ (List.mem_append_left _ (List.mem_append_left _ (List.mem_append_left _ (List.mem_append_left _ (List.mem_append_right _ (h))))))) ag_wsX110
set_option maxRecDepth 20000 in
theorem glX11_serveWant_8 : GoodIn wsX11_serveWant (wsX40) := goodIn_sub (fun _ h => List.mem_cons_of_mem _ (List.mem_append_left _ (List.mem_append_right _ (h)))) ag_wsX40
set_option maxRecDepth 20000 in
theorem ggX11_serveWant_X11_ship : GoodIn wsX11_serveWant wsX11_ship := goodIn_c (glX11_serveWant_1 _ (List.mem_of_getElem? (i := 0) rfl)) (goodIn_app (goodIn_app (goodIn_app (goodIn_app (goodIn_c (glX11_serveWant_0 _ (List.mem_of_getElem? (i := 1) rfl)) (goodIn_c (glX11_serveWant_0 _ (List.mem_of_getElem? (i := 7) rfl)) (goodIn_c (glX11_serveWant_1 _ (List.mem_of_getElem? (i := 1) rfl)) (goodIn_c (glX11_serveWant_1 _ (List.mem_of_getElem? (i := 2) rfl)) (goodIn_c (glX11_serveWant_1 _ (List.mem_of_getElem? (i := 3) rfl)) (goodIn_c (glX11_serveWant_1 _ (List.mem_of_getElem? (i := 4) rfl)) (goodIn_c (glX11_serveWant_1 _ (List.mem_of_getElem? (i := 5) rfl)) (goodIn_c (glX11_serveWant_1 _ (List.mem_of_getElem? (i := 6) rfl)) (goodIn_c (glX11_serveWant_1 _ (List.mem_of_getElem? (i := 7) rfl)) (goodIn_c (glX11_serveWant_1 _ (List.mem_of_getElem? (i := 8) rfl)) (goodIn_c (glX11_serveWant_1 _ (List.mem_of_getElem? (i := 9) rfl)) (goodIn_c (glX11_serveWant_1 _ (List.mem_of_getElem? (i := 10) rfl)) (goodIn_c (glX11_serveWant_1 _ (List.mem_of_getElem? (i := 11) rfl)) (goodIn_c (glX11_serveWant_1 _ (List.mem_of_getElem? (i := 12) rfl)) (goodIn_n))))))))))))))) (glX11_serveWant_4)) (glX11_serveWant_5)) (glX11_serveWant_3)) (glX11_serveWant_8))
set_option maxRecDepth 20000 in
theorem gX11_serveWant_X11_ship : GoodIn wsX11_serveWant (wsV RX11 523 RX11 yX11_ship wsX11_ship) := goodIn_app (goodIn_c (glX11_serveWant_0 _ (List.mem_of_getElem? (i := 20) rfl)) (goodIn_c (glX11_serveWant_0 _ (List.mem_of_getElem? (i := 21) rfl)) (goodIn_c (glX11_serveWant_0 _ (List.mem_of_getElem? (i := 22) rfl)) (goodIn_c (glX11_serveWant_0 _ (List.mem_of_getElem? (i := 23) rfl)) (goodIn_n))))) ggX11_serveWant_X11_ship
set_option maxRecDepth 20000 in
theorem glX11_serveWant_2 : GoodIn wsX11_serveWant (wsX11_serveWant_r3) := goodIn_sub (fun _ h => List.mem_cons_of_mem _ (List.mem_append_left _ (List.mem_append_left _ (List.mem_append_left _ (List.mem_append_left _ (List.mem_append_left _ (List.mem_append_left _ (List.mem_append_left _ (List.mem_append_right _ (List.mem_append_right _ (h))))))))))) (by decide +kernel)
set_option maxRecDepth 20000 in
theorem glX11_serveWant_7 : GoodIn wsX11_serveWant (wsX50) := goodIn_sub (fun _ h => List.mem_cons_of_mem _ (List.mem_append_left _ (List.mem_append_left _ (List.mem_append_right _ (h))))) ag_wsX50
set_option maxRecDepth 20000 in
theorem glX11_serveWant_6 : GoodIn wsX11_serveWant (wsX30) := goodIn_sub (fun _ h => List.mem_cons_of_mem _ (List.mem_append_left _ (List.mem_append_left _ (List.mem_append_left _ (List.mem_append_right _ (h)))))) ag_wsX30
set_option maxRecDepth 20000 in
theorem glX11_serveWant_9 : GoodIn wsX11_serveWant (wsX00) := goodIn_sub (fun _ h => List.mem_cons_of_mem _ (List.mem_append_right _ (h))) ag_wsX00
set_option maxRecDepth 20000 in
theorem ggX11_serveWant_X11_placeOrCancel : GoodIn wsX11_serveWant wsX11_placeOrCancel := goodIn_c (glX11_serveWant_1 _ (List.mem_of_getElem? (i := 16) rfl)) (goodIn_app (goodIn_app (goodIn_app (goodIn_app (goodIn_app (goodIn_app (goodIn_app (goodIn_app (goodIn_c (glX11_serveWant_1 _ (List.mem_of_getElem? (i := 17) rfl)) (goodIn_c (glX11_serveWant_0 _ (List.mem_of_getElem? (i := 9) rfl)) (goodIn_c (glX11_serveWant_1 _ (List.mem_of_getElem? (i := 18) rfl)) (goodIn_c (glX11_serveWant_0 _ (List.mem_of_getElem? (i := 0) rfl)) (goodIn_c (glX11_serveWant_1 _ (List.mem_of_getElem? (i := 19) rfl)) (goodIn_c (glX11_serveWant_0 _ (List.mem_of_getElem? (i := 1) rfl)) (goodIn_c (glX11_serveWant_1 _ (List.mem_of_getElem? (i := 20) rfl)) (goodIn_c (glX11_serveWant_1 _ (List.mem_of_getElem? (i := 21) rfl)) (goodIn_c (glX11_serveWant_1 _ (List.mem_of_getElem? (i := 22) rfl)) (goodIn_c (glX11_serveWant_1 _ (List.mem_of_getElem? (i := 23) rfl)) (goodIn_c (glX11_serveWant_2 _ (List.mem_of_getElem? (i := 0) rfl)) (goodIn_c (glX11_serveWant_0 _ (List.mem_of_getElem? (i := 11) rfl)) (goodIn_c (glX11_serveWant_0 _ (List.mem_of_getElem? (i := 12) rfl)) (goodIn_c (glX11_serveWant_0 _ (List.mem_of_getElem? (i := 13) rfl)) (goodIn_c (glX11_serveWant_0 _ (List.mem_of_getElem? (i := 14) rfl)) (goodIn_c (glX11_serveWant_0 _ (List.mem_of_getElem? (i := 15) rfl)) (goodIn_c (glX11_serveWant_0 _ (List.mem_of_getElem? (i := 16) rfl)) (goodIn_c (glX11_serveWant_0 _ (List.mem_of_getElem? (i := 17) rfl)) (goodIn_c (glX11_serveWant_0 _ (List.mem_of_getElem? (i := 18) rfl)) (goodIn_c (glX11_serveWant_0 _ (List.mem_of_getElem? (i := 19) rfl)) (goodIn_c (glX11_serveWant_2 _ (List.mem_of_getElem? (i := 1) rfl)) (goodIn_c (glX11_serveWant_2 _ (List.mem_of_getElem? (i := 2) rfl)) (goodIn_c (glX11_serveWant_2 _ (List.mem_of_getElem? (i := 3) rfl)) (goodIn_c (glX11_serveWant_2 _ (List.mem_of_getElem? (i := 4) rfl)) (goodIn_n))))))))))))))))))))))))) (goodIn_c (glX11_serveWant_2 _ (List.mem_of_getElem? (i := 5) rfl)) (goodIn_c (glX11_serveWant_2 _ (List.mem_of_getElem? (i := 6) rfl)) (goodIn_c (glX11_serveWant_2 _ (List.mem_of_getElem? (i := 7) rfl)) (goodIn_c (glX11_serveWant_2 _ (List.mem_of_getElem? (i := 8) rfl)) (goodIn_c (glX11_serveWant_0 _ (List.mem_of_getElem? (i := 23) rfl)) (goodIn_c (glX11_serveWant_2 _ (List.mem_of_getElem? (i := 9) rfl)) (goodIn_c (glX11_serveWant_0 _ (List.mem_of_getElem? (i := 20) rfl)) (goodIn_c (glX11_serveWant_0 _ (List.mem_of_getElem? (i := 21) rfl)) (goodIn_c (glX11_serveWant_0 _ (List.mem_of_getElem? (i := 22) rfl)) (goodIn_c (glX11_serveWant_1 _ (List.mem_of_getElem? (i := 0) rfl)) (goodIn_c (glX11_serveWant_0 _ (List.mem_of_getElem? (i := 7) rfl)) (goodIn_c (glX11_serveWant_1 _ (List.mem_of_getElem? (i := 1) rfl)) (goodIn_c (glX11_serveWant_1 _ (List.mem_of_getElem? (i := 2) rfl)) (goodIn_c (glX11_serveWant_1 _ (List.mem_of_getElem? (i := 3) rfl)) (goodIn_c (glX11_serveWant_1 _ (List.mem_of_getElem? (i := 4) rfl)) (goodIn_c (glX11_serveWant_1 _ (List.mem_of_getElem? (i := 5) rfl)) (goodIn_c (glX11_serveWant_1 _ (List.mem_of_getElem? (i := 6) rfl)) (goodIn_c (glX11_serveWant_1 _ (List.mem_of_getElem? (i := 7) rfl)) (goodIn_c (glX11_serveWant_1 _ (List.mem_of_getElem? (i := 8) rfl)) (goodIn_c (glX11_serveWant_1 _ (List.mem_of_getElem? (i := 9) rfl)) (goodIn_c (glX11_serveWant_1 _ (List.mem_of_getElem? (i := 10) rfl)) (goodIn_c (glX11_serveWant_1 _ (List.mem_of_getElem? (i := 11) rfl)) (goodIn_c (glX11_serveWant_1 _ (List.mem_of_getElem? (i := 12) rfl)) (goodIn_n))))))))))))))))))))))))) (glX11_serveWant_5)) (glX11_serveWant_7)) (glX11_serveWant_3)) (glX11_serveWant_4)) (glX11_serveWant_6)) (glX11_serveWant_9)) (glX11_serveWant_8))
set_option maxRecDepth 20000 in
theorem gX11_serveWant_X11_placeOrCancel : GoodIn wsX11_serveWant (wsV RX11 527 RX11 yX11_placeOrCancel wsX11_placeOrCancel) := goodIn_app (goodIn_c (glX11_serveWant_1 _ (List.mem_of_getElem? (i := 13) rfl)) (goodIn_c (glX11_serveWant_1 _ (List.mem_of_getElem? (i := 14) rfl)) (goodIn_c (glX11_serveWant_1 _ (List.mem_of_getElem? (i := 15) rfl)) (goodIn_c (glX11_serveWant_0 _ (List.mem_of_getElem? (i := 23) rfl)) (goodIn_n))))) ggX11_serveWant_X11_placeOrCancel
theorem dX11_serveWant_0 : decode cX11_serveWant 0 = .ok (.aload_n 2, 1) := qdE44 (by decide +kernel)
theorem dX11_serveWant_1 : decode cX11_serveWant 1 = .ok (.invokevirtual 517, 3) := qdE182 (by decide +kernel)
theorem dX11_serveWant_4 : decode cX11_serveWant 4 = .ok (.aload_n 2, 1) := qdE44 (by decide +kernel)
theorem dX11_serveWant_5 : decode cX11_serveWant 5 = .ok (.getfield 276, 3) := qdE180 (by decide +kernel)
theorem dX11_serveWant_8 : decode cX11_serveWant 8 = .ok (.getfield 147, 3) := qdE180 (by decide +kernel)
theorem dX11_serveWant_11 : decode cX11_serveWant 11 = .ok (.invokestatic 520, 3) := qdE184 (by decide +kernel)
theorem dX11_serveWant_14 : decode cX11_serveWant 14 = .ok (.istore_n 3, 1) := qdE62 (by decide +kernel)
theorem dX11_serveWant_15 : decode cX11_serveWant 15 = .ok (.iload_n 3, 1) := qdE29 (by decide +kernel)
theorem dX11_serveWant_16 : decode cX11_serveWant 16 = .ok (.ifCond .le 23, 3) := qdE158 (by decide +kernel)
theorem dX11_serveWant_19 : decode cX11_serveWant 19 = .ok (.aload_n 2, 1) := qdE44 (by decide +kernel)
theorem dX11_serveWant_20 : decode cX11_serveWant 20 = .ok (.dup, 1) := qdE89 (by decide +kernel)
theorem dX11_serveWant_21 : decode cX11_serveWant 21 = .ok (.getfield 288, 3) := qdE180 (by decide +kernel)
theorem dX11_serveWant_24 : decode cX11_serveWant 24 = .ok (.iload_n 3, 1) := qdE29 (by decide +kernel)
theorem dX11_serveWant_25 : decode cX11_serveWant 25 = .ok (.iadd, 1) := qdE96 (by decide +kernel)
theorem dX11_serveWant_26 : decode cX11_serveWant 26 = .ok (.putfield 288, 3) := qdE181 (by decide +kernel)
theorem dX11_serveWant_29 : decode cX11_serveWant 29 = .ok (.aload_n 0, 1) := qdE42 (by decide +kernel)
theorem dX11_serveWant_30 : decode cX11_serveWant 30 = .ok (.aload_n 2, 1) := qdE44 (by decide +kernel)
theorem dX11_serveWant_31 : decode cX11_serveWant 31 = .ok (.aload_n 2, 1) := qdE44 (by decide +kernel)
theorem dX11_serveWant_32 : decode cX11_serveWant 32 = .ok (.getfield 276, 3) := qdE180 (by decide +kernel)
theorem dX11_serveWant_35 : decode cX11_serveWant 35 = .ok (.iload_n 3, 1) := qdE29 (by decide +kernel)
theorem dX11_serveWant_36 : decode cX11_serveWant 36 = .ok (.invokevirtual 523, 3) := qdE182 (by decide +kernel)
theorem dX11_serveWant_39 : decode cX11_serveWant 39 = .ok (.aload_n 2, 1) := qdE44 (by decide +kernel)
theorem dX11_serveWant_40 : decode cX11_serveWant 40 = .ok (.invokevirtual 517, 3) := qdE182 (by decide +kernel)
theorem dX11_serveWant_43 : decode cX11_serveWant 43 = .ok (.ifCond .le 30, 3) := qdE158 (by decide +kernel)
theorem dX11_serveWant_46 : decode cX11_serveWant 46 = .ok (.aload_n 0, 1) := qdE42 (by decide +kernel)
theorem dX11_serveWant_47 : decode cX11_serveWant 47 = .ok (.getfield 136, 3) := qdE180 (by decide +kernel)
theorem dX11_serveWant_50 : decode cX11_serveWant 50 = .ok (.aload_n 1, 1) := qdE43 (by decide +kernel)
theorem dX11_serveWant_51 : decode cX11_serveWant 51 = .ok (.getfield 256, 3) := qdE180 (by decide +kernel)
theorem dX11_serveWant_54 : decode cX11_serveWant 54 = .ok (.isub, 1) := qdE100 (by decide +kernel)
theorem dX11_serveWant_55 : decode cX11_serveWant 55 = .ok (.aload_n 0, 1) := qdE42 (by decide +kernel)
theorem dX11_serveWant_56 : decode cX11_serveWant 56 = .ok (.getfield 33, 3) := qdE180 (by decide +kernel)
theorem dX11_serveWant_59 : decode cX11_serveWant 59 = .ok (.getfield 174, 3) := qdE180 (by decide +kernel)
theorem dX11_serveWant_62 : decode cX11_serveWant 62 = .ok (.iconst 0, 1) := qdE3 (by decide +kernel)
theorem dX11_serveWant_63 : decode cX11_serveWant 63 = .ok (.iaload, 1) := qdE46 (by decide +kernel)
theorem dX11_serveWant_64 : decode cX11_serveWant 64 = .ok (.if_icmp .le 9, 3) := qdE164 (by decide +kernel)
theorem dX11_serveWant_67 : decode cX11_serveWant 67 = .ok (.aload_n 0, 1) := qdE42 (by decide +kernel)
theorem dX11_serveWant_68 : decode cX11_serveWant 68 = .ok (.aload_n 1, 1) := qdE43 (by decide +kernel)
theorem dX11_serveWant_69 : decode cX11_serveWant 69 = .ok (.aload_n 2, 1) := qdE44 (by decide +kernel)
theorem dX11_serveWant_70 : decode cX11_serveWant 70 = .ok (.invokevirtual 527, 3) := qdE182 (by decide +kernel)
theorem dX11_serveWant_73 : decode cX11_serveWant 73 = .ok (.return_, 1) := qdE177 (by decide +kernel)
set_option maxRecDepth 20000 in
theorem glX11_placeOrCancel_0 : GoodIn wsX11_placeOrCancel (wsX11_placeOrCancel_r1) := goodIn_sub (fun _ h => List.mem_cons_of_mem _ (List.mem_append_left _ (List.mem_append_left _ (List.mem_append_left _ (List.mem_append_left _ (List.mem_append_left _ (List.mem_append_left _ (List.mem_append_left _ (List.mem_append_left _ (h)))))))))) (by decide +kernel)
set_option maxRecDepth 20000 in
theorem glX11_placeOrCancel_4 : GoodIn wsX11_placeOrCancel (wsX100) := goodIn_sub (fun _ h => List.mem_cons_of_mem _ (List.mem_append_left _ (List.mem_append_left _ (List.mem_append_left _ (List.mem_append_left _ (List.mem_append_right _ (h))))))) ag_wsX100
set_option maxRecDepth 20000 in
theorem ggX11_placeOrCancel_X10_left : GoodIn wsX11_placeOrCancel wsX10_left := goodIn_c (glX11_placeOrCancel_0 _ (List.mem_of_getElem? (i := 15) rfl)) (goodIn_app (goodIn_c (glX11_placeOrCancel_0 _ (List.mem_of_getElem? (i := 16) rfl)) (goodIn_c (glX11_placeOrCancel_0 _ (List.mem_of_getElem? (i := 17) rfl)) (goodIn_c (glX11_placeOrCancel_0 _ (List.mem_of_getElem? (i := 18) rfl)) (goodIn_c (glX11_placeOrCancel_0 _ (List.mem_of_getElem? (i := 19) rfl)) (goodIn_n))))) (glX11_placeOrCancel_4))
set_option maxRecDepth 20000 in
theorem gX11_placeOrCancel_X10_left : GoodIn wsX11_placeOrCancel (wsV RX11 517 RX10 yX10_left wsX10_left) := goodIn_app (goodIn_c (glX11_placeOrCancel_0 _ (List.mem_of_getElem? (i := 11) rfl)) (goodIn_c (glX11_placeOrCancel_0 _ (List.mem_of_getElem? (i := 12) rfl)) (goodIn_c (glX11_placeOrCancel_0 _ (List.mem_of_getElem? (i := 13) rfl)) (goodIn_c (glX11_placeOrCancel_0 _ (List.mem_of_getElem? (i := 14) rfl)) (goodIn_n))))) ggX11_placeOrCancel_X10_left
set_option maxRecDepth 20000 in
theorem glX11_placeOrCancel_1 : GoodIn wsX11_placeOrCancel (wsX11_placeOrCancel_r2) := goodIn_sub (fun _ h => List.mem_cons_of_mem _ (List.mem_append_left _ (List.mem_append_left _ (List.mem_append_left _ (List.mem_append_left _ (List.mem_append_left _ (List.mem_append_left _ (List.mem_append_left _ (List.mem_append_right _ (h)))))))))) (by decide +kernel)
set_option maxRecDepth 20000 in
theorem glX11_placeOrCancel_7 : GoodIn wsX11_placeOrCancel (wsX00) := goodIn_sub (fun _ h => List.mem_cons_of_mem _ (List.mem_append_left _ (List.mem_append_right _ (h)))) ag_wsX00
set_option maxRecDepth 20000 in
theorem ggX11_placeOrCancel_X0_at : GoodIn wsX11_placeOrCancel wsX0_at := goodIn_c (glX11_placeOrCancel_1 _ (List.mem_of_getElem? (i := 0) rfl)) (goodIn_app (goodIn_c (glX11_placeOrCancel_1 _ (List.mem_of_getElem? (i := 1) rfl)) (goodIn_c (glX11_placeOrCancel_1 _ (List.mem_of_getElem? (i := 2) rfl)) (goodIn_c (glX11_placeOrCancel_1 _ (List.mem_of_getElem? (i := 3) rfl)) (goodIn_c (glX11_placeOrCancel_1 _ (List.mem_of_getElem? (i := 4) rfl)) (goodIn_c (glX11_placeOrCancel_1 _ (List.mem_of_getElem? (i := 5) rfl)) (goodIn_n)))))) (glX11_placeOrCancel_7))
set_option maxRecDepth 20000 in
theorem gX11_placeOrCancel_X0_at : GoodIn wsX11_placeOrCancel (wsV RX11 378 RX0 yX0_at wsX0_at) := goodIn_app (goodIn_c (glX11_placeOrCancel_0 _ (List.mem_of_getElem? (i := 20) rfl)) (goodIn_c (glX11_placeOrCancel_0 _ (List.mem_of_getElem? (i := 21) rfl)) (goodIn_c (glX11_placeOrCancel_0 _ (List.mem_of_getElem? (i := 22) rfl)) (goodIn_c (glX11_placeOrCancel_0 _ (List.mem_of_getElem? (i := 23) rfl)) (goodIn_n))))) ggX11_placeOrCancel_X0_at
set_option maxRecDepth 20000 in
theorem glX11_placeOrCancel_5 : GoodIn wsX11_placeOrCancel (wsX80) := goodIn_sub (fun _ h => List.mem_cons_of_mem _ (List.mem_append_left _ (List.mem_append_left _ (List.mem_append_left _ (List.mem_append_right _ (h)))))) ag_wsX80
set_option maxRecDepth 20000 in
theorem glX11_placeOrCancel_2 : GoodIn wsX11_placeOrCancel (wsX110) := goodIn_sub (fun _ h => List.mem_cons_of_mem _ (List.mem_append_left _ (List.mem_append_left _ (List.mem_append_left _ (List.mem_append_left _ (List.mem_append_left _ (List.mem_append_left _ (List.mem_append_right _ (h))))))))) ag_wsX110
set_option maxRecDepth 20000 in
theorem glX11_placeOrCancel_8 : GoodIn wsX11_placeOrCancel (wsX40) := goodIn_sub (fun _ h => List.mem_cons_of_mem _ (List.mem_append_right _ (h))) ag_wsX40
set_option maxRecDepth 20000 in
theorem ggX11_placeOrCancel_X11_ship : GoodIn wsX11_placeOrCancel wsX11_ship := goodIn_c (glX11_placeOrCancel_1 _ (List.mem_of_getElem? (i := 9) rfl)) (goodIn_app (goodIn_app (goodIn_app (goodIn_app (goodIn_c (glX11_placeOrCancel_0 _ (List.mem_of_getElem? (i := 5) rfl)) (goodIn_c (glX11_placeOrCancel_1 _ (List.mem_of_getElem? (i := 10) rfl)) (goodIn_c (glX11_placeOrCancel_1 _ (List.mem_of_getElem? (i := 11) rfl)) (goodIn_c (glX11_placeOrCancel_1 _ (List.mem_of_getElem? (i := 12) rfl)) (goodIn_c (glX11_placeOrCancel_1 _ (List.mem_of_getElem? (i := 13) rfl)) (goodIn_c (glX11_placeOrCancel_1 _ (List.mem_of_getElem? (i := 14) rfl)) (goodIn_c (glX11_placeOrCancel_1 _ (List.mem_of_getElem? (i := 15) rfl)) (goodIn_c (glX11_placeOrCancel_1 _ (List.mem_of_getElem? (i := 16) rfl)) (goodIn_c (glX11_placeOrCancel_1 _ (List.mem_of_getElem? (i := 17) rfl)) (goodIn_c (glX11_placeOrCancel_1 _ (List.mem_of_getElem? (i := 18) rfl)) (goodIn_c (glX11_placeOrCancel_1 _ (List.mem_of_getElem? (i := 19) rfl)) (goodIn_c (glX11_placeOrCancel_1 _ (List.mem_of_getElem? (i := 20) rfl)) (goodIn_c (glX11_placeOrCancel_1 _ (List.mem_of_getElem? (i := 21) rfl)) (goodIn_c (glX11_placeOrCancel_1 _ (List.mem_of_getElem? (i := 22) rfl)) (goodIn_n))))))))))))))) (glX11_placeOrCancel_5)) (glX11_placeOrCancel_2)) (glX11_placeOrCancel_4)) (glX11_placeOrCancel_8))
set_option maxRecDepth 20000 in
theorem gX11_placeOrCancel_X11_ship : GoodIn wsX11_placeOrCancel (wsV RX11 523 RX11 yX11_ship wsX11_ship) := goodIn_app (goodIn_c (glX11_placeOrCancel_1 _ (List.mem_of_getElem? (i := 6) rfl)) (goodIn_c (glX11_placeOrCancel_1 _ (List.mem_of_getElem? (i := 7) rfl)) (goodIn_c (glX11_placeOrCancel_1 _ (List.mem_of_getElem? (i := 8) rfl)) (goodIn_c (glX11_placeOrCancel_1 _ (List.mem_of_getElem? (i := 4) rfl)) (goodIn_n))))) ggX11_placeOrCancel_X11_ship
theorem dX11_placeOrCancel_0 : decode cX11_placeOrCancel 0 = .ok (.aload_n 2, 1) := qdE44 (by decide +kernel)
theorem dX11_placeOrCancel_1 : decode cX11_placeOrCancel 1 = .ok (.invokevirtual 517, 3) := qdE182 (by decide +kernel)
theorem dX11_placeOrCancel_4 : decode cX11_placeOrCancel 4 = .ok (.istore_n 3, 1) := qdE62 (by decide +kernel)
theorem dX11_placeOrCancel_5 : decode cX11_placeOrCancel 5 = .ok (.aload_n 0, 1) := qdE42 (by decide +kernel)
theorem dX11_placeOrCancel_6 : decode cX11_placeOrCancel 6 = .ok (.getfield 19, 3) := qdE180 (by decide +kernel)
theorem dX11_placeOrCancel_9 : decode cX11_placeOrCancel 9 = .ok (.aload_n 0, 1) := qdE42 (by decide +kernel)
theorem dX11_placeOrCancel_10 : decode cX11_placeOrCancel 10 = .ok (.getfield 33, 3) := qdE180 (by decide +kernel)
theorem dX11_placeOrCancel_13 : decode cX11_placeOrCancel 13 = .ok (.getfield 178, 3) := qdE180 (by decide +kernel)
theorem dX11_placeOrCancel_16 : decode cX11_placeOrCancel 16 = .ok (.aload_n 2, 1) := qdE44 (by decide +kernel)
theorem dX11_placeOrCancel_17 : decode cX11_placeOrCancel 17 = .ok (.getfield 276, 3) := qdE180 (by decide +kernel)
theorem dX11_placeOrCancel_20 : decode cX11_placeOrCancel 20 = .ok (.getfield 181, 3) := qdE180 (by decide +kernel)
theorem dX11_placeOrCancel_23 : decode cX11_placeOrCancel 23 = .ok (.iaload, 1) := qdE46 (by decide +kernel)
theorem dX11_placeOrCancel_24 : decode cX11_placeOrCancel 24 = .ok (.invokevirtual 378, 3) := qdE182 (by decide +kernel)
theorem dX11_placeOrCancel_27 : decode cX11_placeOrCancel 27 = .ok (.astore 4, 2) := qdE58 (by decide +kernel)
theorem dX11_placeOrCancel_29 : decode cX11_placeOrCancel 29 = .ok (.aload 4, 2) := qdE25 (by decide +kernel)
theorem dX11_placeOrCancel_31 : decode cX11_placeOrCancel 31 = .ok (.ifnull 39, 3) := qdE198 (by decide +kernel)
theorem dX11_placeOrCancel_34 : decode cX11_placeOrCancel 34 = .ok (.aload 4, 2) := qdE25 (by decide +kernel)
theorem dX11_placeOrCancel_36 : decode cX11_placeOrCancel 36 = .ok (.getfield 147, 3) := qdE180 (by decide +kernel)
theorem dX11_placeOrCancel_39 : decode cX11_placeOrCancel 39 = .ok (.iload_n 3, 1) := qdE29 (by decide +kernel)
theorem dX11_placeOrCancel_40 : decode cX11_placeOrCancel 40 = .ok (.if_icmp .lt 30, 3) := qdE161 (by decide +kernel)
theorem dX11_placeOrCancel_43 : decode cX11_placeOrCancel 43 = .ok (.aload_n 2, 1) := qdE44 (by decide +kernel)
theorem dX11_placeOrCancel_44 : decode cX11_placeOrCancel 44 = .ok (.dup, 1) := qdE89 (by decide +kernel)
theorem dX11_placeOrCancel_45 : decode cX11_placeOrCancel 45 = .ok (.getfield 291, 3) := qdE180 (by decide +kernel)
theorem dX11_placeOrCancel_48 : decode cX11_placeOrCancel 48 = .ok (.iload_n 3, 1) := qdE29 (by decide +kernel)
theorem dX11_placeOrCancel_49 : decode cX11_placeOrCancel 49 = .ok (.iadd, 1) := qdE96 (by decide +kernel)
theorem dX11_placeOrCancel_50 : decode cX11_placeOrCancel 50 = .ok (.putfield 291, 3) := qdE181 (by decide +kernel)
theorem dX11_placeOrCancel_53 : decode cX11_placeOrCancel 53 = .ok (.aload_n 2, 1) := qdE44 (by decide +kernel)
theorem dX11_placeOrCancel_54 : decode cX11_placeOrCancel 54 = .ok (.aload 4, 2) := qdE25 (by decide +kernel)
theorem dX11_placeOrCancel_56 : decode cX11_placeOrCancel 56 = .ok (.putfield 306, 3) := qdE181 (by decide +kernel)
theorem dX11_placeOrCancel_59 : decode cX11_placeOrCancel 59 = .ok (.aload_n 0, 1) := qdE42 (by decide +kernel)
theorem dX11_placeOrCancel_60 : decode cX11_placeOrCancel 60 = .ok (.aload_n 2, 1) := qdE44 (by decide +kernel)
theorem dX11_placeOrCancel_61 : decode cX11_placeOrCancel 61 = .ok (.aload 4, 2) := qdE25 (by decide +kernel)
theorem dX11_placeOrCancel_63 : decode cX11_placeOrCancel 63 = .ok (.iload_n 3, 1) := qdE29 (by decide +kernel)
theorem dX11_placeOrCancel_64 : decode cX11_placeOrCancel 64 = .ok (.invokevirtual 523, 3) := qdE182 (by decide +kernel)
theorem dX11_placeOrCancel_67 : decode cX11_placeOrCancel 67 = .ok (.goto 28, 3) := qdE167 (by decide +kernel)
theorem dX11_placeOrCancel_70 : decode cX11_placeOrCancel 70 = .ok (.aload_n 2, 1) := qdE44 (by decide +kernel)
theorem dX11_placeOrCancel_71 : decode cX11_placeOrCancel 71 = .ok (.dup, 1) := qdE89 (by decide +kernel)
theorem dX11_placeOrCancel_72 : decode cX11_placeOrCancel 72 = .ok (.getfield 294, 3) := qdE180 (by decide +kernel)
theorem dX11_placeOrCancel_75 : decode cX11_placeOrCancel 75 = .ok (.iload_n 3, 1) := qdE29 (by decide +kernel)
theorem dX11_placeOrCancel_76 : decode cX11_placeOrCancel 76 = .ok (.iadd, 1) := qdE96 (by decide +kernel)
theorem dX11_placeOrCancel_77 : decode cX11_placeOrCancel 77 = .ok (.putfield 294, 3) := qdE181 (by decide +kernel)
theorem dX11_placeOrCancel_80 : decode cX11_placeOrCancel 80 = .ok (.aload_n 1, 1) := qdE43 (by decide +kernel)
theorem dX11_placeOrCancel_81 : decode cX11_placeOrCancel 81 = .ok (.dup, 1) := qdE89 (by decide +kernel)
theorem dX11_placeOrCancel_82 : decode cX11_placeOrCancel 82 = .ok (.getfield 261, 3) := qdE180 (by decide +kernel)
theorem dX11_placeOrCancel_85 : decode cX11_placeOrCancel 85 = .ok (.iload_n 3, 1) := qdE29 (by decide +kernel)
theorem dX11_placeOrCancel_86 : decode cX11_placeOrCancel 86 = .ok (.aload_n 2, 1) := qdE44 (by decide +kernel)
theorem dX11_placeOrCancel_87 : decode cX11_placeOrCancel 87 = .ok (.getfield 285, 3) := qdE180 (by decide +kernel)
theorem dX11_placeOrCancel_90 : decode cX11_placeOrCancel 90 = .ok (.imul, 1) := qdE104 (by decide +kernel)
theorem dX11_placeOrCancel_91 : decode cX11_placeOrCancel 91 = .ok (.iadd, 1) := qdE96 (by decide +kernel)
theorem dX11_placeOrCancel_92 : decode cX11_placeOrCancel 92 = .ok (.putfield 261, 3) := qdE181 (by decide +kernel)
theorem dX11_placeOrCancel_95 : decode cX11_placeOrCancel 95 = .ok (.return_, 1) := qdE177 (by decide +kernel)
set_option maxRecDepth 20000 in
theorem glX11_ship_0 : GoodIn wsX11_ship ([Cond.fieldLink RX11 147 "PostHouse$Thing" "stock" "I", Cond.fieldLink RX11 136 "PostHouse" "today" "I", Cond.fieldLink RX11 303 "PostHouse$Want" "cameLast" "I", Cond.fieldLink RX11 61 "PostHouse" "packing" "LPostHouse$Packing;", Cond.fieldLink RX11 530 "PostHouse$Thing" "weight" "I", Cond.methodLink RX11 533 yX4_add, Cond.instanceMethod yX4_add, Cond.selects RX4 yX4_add yX4_add, Cond.initialized RX4, Cond.code yX4_add cX4_add 4 none, Cond.fieldLink RX4 21 "PostHouse$Packing" "kinds" "I", Cond.fieldLink RX4 11 "PostHouse$Packing" "weights" "[I", Cond.fieldLink RX4 15 "PostHouse$Packing" "counts" "[I", Cond.fieldLink RX4 25 "PostHouse$Packing" "pieces" "I"]) := goodIn_sub (fun _ h => List.mem_cons_of_mem _ (List.mem_append_left _ (List.mem_append_left _ (List.mem_append_left _ (List.mem_append_left _ (h)))))) (by decide +kernel)
set_option maxRecDepth 20000 in
theorem glX11_ship_4 : GoodIn wsX11_ship (wsX40) := goodIn_sub (fun _ h => List.mem_cons_of_mem _ (List.mem_append_right _ (h))) ag_wsX40
set_option maxRecDepth 20000 in
theorem ggX11_ship_X4_add : GoodIn wsX11_ship wsX4_add := goodIn_c (glX11_ship_0 _ (List.mem_of_getElem? (i := 9) rfl)) (goodIn_app (goodIn_c (glX11_ship_0 _ (List.mem_of_getElem? (i := 10) rfl)) (goodIn_c (glX11_ship_0 _ (List.mem_of_getElem? (i := 11) rfl)) (goodIn_c (glX11_ship_0 _ (List.mem_of_getElem? (i := 12) rfl)) (goodIn_c (glX11_ship_0 _ (List.mem_of_getElem? (i := 13) rfl)) (goodIn_n))))) (glX11_ship_4))
set_option maxRecDepth 20000 in
theorem gX11_ship_X4_add : GoodIn wsX11_ship (wsV RX11 533 RX4 yX4_add wsX4_add) := goodIn_app (goodIn_c (glX11_ship_0 _ (List.mem_of_getElem? (i := 5) rfl)) (goodIn_c (glX11_ship_0 _ (List.mem_of_getElem? (i := 6) rfl)) (goodIn_c (glX11_ship_0 _ (List.mem_of_getElem? (i := 7) rfl)) (goodIn_c (glX11_ship_0 _ (List.mem_of_getElem? (i := 8) rfl)) (goodIn_n))))) ggX11_ship_X4_add
theorem dX11_ship_0 : decode cX11_ship 0 = .ok (.aload_n 2, 1) := qdE44 (by decide +kernel)
theorem dX11_ship_1 : decode cX11_ship 1 = .ok (.dup, 1) := qdE89 (by decide +kernel)
theorem dX11_ship_2 : decode cX11_ship 2 = .ok (.getfield 147, 3) := qdE180 (by decide +kernel)
theorem dX11_ship_5 : decode cX11_ship 5 = .ok (.iload_n 3, 1) := qdE29 (by decide +kernel)
theorem dX11_ship_6 : decode cX11_ship 6 = .ok (.isub, 1) := qdE100 (by decide +kernel)
theorem dX11_ship_7 : decode cX11_ship 7 = .ok (.putfield 147, 3) := qdE181 (by decide +kernel)
theorem dX11_ship_10 : decode cX11_ship 10 = .ok (.aload_n 1, 1) := qdE43 (by decide +kernel)
theorem dX11_ship_11 : decode cX11_ship 11 = .ok (.aload_n 0, 1) := qdE42 (by decide +kernel)
theorem dX11_ship_12 : decode cX11_ship 12 = .ok (.getfield 136, 3) := qdE180 (by decide +kernel)
theorem dX11_ship_15 : decode cX11_ship 15 = .ok (.putfield 303, 3) := qdE181 (by decide +kernel)
theorem dX11_ship_18 : decode cX11_ship 18 = .ok (.aload_n 0, 1) := qdE42 (by decide +kernel)
theorem dX11_ship_19 : decode cX11_ship 19 = .ok (.getfield 61, 3) := qdE180 (by decide +kernel)
theorem dX11_ship_22 : decode cX11_ship 22 = .ok (.aload_n 2, 1) := qdE44 (by decide +kernel)
theorem dX11_ship_23 : decode cX11_ship 23 = .ok (.getfield 530, 3) := qdE180 (by decide +kernel)
theorem dX11_ship_26 : decode cX11_ship 26 = .ok (.iload_n 3, 1) := qdE29 (by decide +kernel)
theorem dX11_ship_27 : decode cX11_ship 27 = .ok (.invokevirtual 533, 3) := qdE182 (by decide +kernel)
theorem dX11_ship_30 : decode cX11_ship 30 = .ok (.return_, 1) := qdE177 (by decide +kernel)
set_option maxRecDepth 20000 in
theorem glX11_salesOf_0 : GoodIn wsX11_salesOf ([Cond.fieldLink RX11 366 "PostHouse" "orderCount" "I", Cond.fieldLink RX11 48 "PostHouse" "orders" "[LPostHouse$Order;", Cond.fieldLink RX11 256 "PostHouse$Order" "day" "I", Cond.methodLink RX11 87 yX11_within, Cond.static yX11_within, Cond.initialized RX11, Cond.code yX11_within cX11_within 3 (some .boolean), Cond.methodLink RX11 535 yX3_manyOf, Cond.instanceMethod yX3_manyOf, Cond.selects RX3 yX3_manyOf yX3_manyOf, Cond.initialized RX3, Cond.code yX3_manyOf cX3_manyOf 4 (some .int), Cond.fieldLink RX3 30 "PostHouse$Order" "size" "I", Cond.fieldLink RX3 11 "PostHouse$Order" "wants" "[LPostHouse$Want;", Cond.fieldLink RX3 37 "PostHouse$Want" "thing" "LPostHouse$Thing;", Cond.fieldLink RX3 41 "PostHouse$Want" "many" "I"]) := goodIn_sub (fun _ h => List.mem_cons_of_mem _ (List.mem_append_left _ (List.mem_append_left _ (List.mem_append_left _ (h))))) (by decide +kernel)
set_option maxRecDepth 20000 in
theorem ggX11_salesOf_X11_within : GoodIn wsX11_salesOf wsX11_within := goodIn_c (glX11_salesOf_0 _ (List.mem_of_getElem? (i := 6) rfl)) (goodIn_n)
set_option maxRecDepth 20000 in
theorem gX11_salesOf_X11_within : GoodIn wsX11_salesOf (va_wsS RX11 87 yX11_within wsX11_within) := goodIn_app (goodIn_c (glX11_salesOf_0 _ (List.mem_of_getElem? (i := 3) rfl)) (goodIn_c (glX11_salesOf_0 _ (List.mem_of_getElem? (i := 4) rfl)) (goodIn_c (glX11_salesOf_0 _ (List.mem_of_getElem? (i := 5) rfl)) (goodIn_n)))) ggX11_salesOf_X11_within
set_option maxRecDepth 20000 in
theorem glX11_salesOf_2 : GoodIn wsX11_salesOf (wsX30) := goodIn_sub (fun _ h => List.mem_cons_of_mem _ (List.mem_append_left _ (List.mem_append_right _ (h)))) ag_wsX30
set_option maxRecDepth 20000 in
theorem glX11_salesOf_3 : GoodIn wsX11_salesOf (wsX100) := goodIn_sub (fun _ h => List.mem_cons_of_mem _ (List.mem_append_right _ (h))) ag_wsX100
set_option maxRecDepth 20000 in
theorem ggX11_salesOf_X3_manyOf : GoodIn wsX11_salesOf wsX3_manyOf := goodIn_c (glX11_salesOf_0 _ (List.mem_of_getElem? (i := 11) rfl)) (goodIn_app (goodIn_app (goodIn_c (glX11_salesOf_0 _ (List.mem_of_getElem? (i := 12) rfl)) (goodIn_c (glX11_salesOf_0 _ (List.mem_of_getElem? (i := 13) rfl)) (goodIn_c (glX11_salesOf_0 _ (List.mem_of_getElem? (i := 14) rfl)) (goodIn_c (glX11_salesOf_0 _ (List.mem_of_getElem? (i := 15) rfl)) (goodIn_n))))) (glX11_salesOf_2)) (glX11_salesOf_3))
set_option maxRecDepth 20000 in
theorem gX11_salesOf_X3_manyOf : GoodIn wsX11_salesOf (wsV RX11 535 RX3 yX3_manyOf wsX3_manyOf) := goodIn_app (goodIn_c (glX11_salesOf_0 _ (List.mem_of_getElem? (i := 7) rfl)) (goodIn_c (glX11_salesOf_0 _ (List.mem_of_getElem? (i := 8) rfl)) (goodIn_c (glX11_salesOf_0 _ (List.mem_of_getElem? (i := 9) rfl)) (goodIn_c (glX11_salesOf_0 _ (List.mem_of_getElem? (i := 10) rfl)) (goodIn_n))))) ggX11_salesOf_X3_manyOf
theorem dX11_salesOf_0 : decode cX11_salesOf 0 = .ok (.iconst 0, 1) := qdE3 (by decide +kernel)
theorem dX11_salesOf_1 : decode cX11_salesOf 1 = .ok (.istore_n 3, 1) := qdE62 (by decide +kernel)
theorem dX11_salesOf_2 : decode cX11_salesOf 2 = .ok (.iconst 0, 1) := qdE3 (by decide +kernel)
theorem dX11_salesOf_3 : decode cX11_salesOf 3 = .ok (.istore 4, 2) := qdE54 (by decide +kernel)
theorem dX11_salesOf_5 : decode cX11_salesOf 5 = .ok (.iload 4, 2) := qdE21 (by decide +kernel)
theorem dX11_salesOf_7 : decode cX11_salesOf 7 = .ok (.aload_n 0, 1) := qdE42 (by decide +kernel)
theorem dX11_salesOf_8 : decode cX11_salesOf 8 = .ok (.getfield 366, 3) := qdE180 (by decide +kernel)
theorem dX11_salesOf_11 : decode cX11_salesOf 11 = .ok (.if_icmp .ge 46, 3) := qdE162 (by decide +kernel)
theorem dX11_salesOf_14 : decode cX11_salesOf 14 = .ok (.aload_n 0, 1) := qdE42 (by decide +kernel)
theorem dX11_salesOf_15 : decode cX11_salesOf 15 = .ok (.getfield 48, 3) := qdE180 (by decide +kernel)
theorem dX11_salesOf_18 : decode cX11_salesOf 18 = .ok (.iload 4, 2) := qdE21 (by decide +kernel)
theorem dX11_salesOf_20 : decode cX11_salesOf 20 = .ok (.aaload, 1) := qdE50 (by decide +kernel)
theorem dX11_salesOf_21 : decode cX11_salesOf 21 = .ok (.getfield 256, 3) := qdE180 (by decide +kernel)
theorem dX11_salesOf_24 : decode cX11_salesOf 24 = .ok (.iload_n 2, 1) := qdE28 (by decide +kernel)
theorem dX11_salesOf_25 : decode cX11_salesOf 25 = .ok (.iload_n 2, 1) := qdE28 (by decide +kernel)
theorem dX11_salesOf_26 : decode cX11_salesOf 26 = .ok (.bipush 14, 2) := qdE16 (by decide +kernel)
theorem dX11_salesOf_28 : decode cX11_salesOf 28 = .ok (.iadd, 1) := qdE96 (by decide +kernel)
theorem dX11_salesOf_29 : decode cX11_salesOf 29 = .ok (.iconst 1, 1) := qdE4 (by decide +kernel)
theorem dX11_salesOf_30 : decode cX11_salesOf 30 = .ok (.isub, 1) := qdE100 (by decide +kernel)
theorem dX11_salesOf_31 : decode cX11_salesOf 31 = .ok (.invokestatic 87, 3) := qdE184 (by decide +kernel)
theorem dX11_salesOf_34 : decode cX11_salesOf 34 = .ok (.ifCond .eq 17, 3) := qdE153 (by decide +kernel)
theorem dX11_salesOf_37 : decode cX11_salesOf 37 = .ok (.iload_n 3, 1) := qdE29 (by decide +kernel)
theorem dX11_salesOf_38 : decode cX11_salesOf 38 = .ok (.aload_n 0, 1) := qdE42 (by decide +kernel)
theorem dX11_salesOf_39 : decode cX11_salesOf 39 = .ok (.getfield 48, 3) := qdE180 (by decide +kernel)
theorem dX11_salesOf_42 : decode cX11_salesOf 42 = .ok (.iload 4, 2) := qdE21 (by decide +kernel)
theorem dX11_salesOf_44 : decode cX11_salesOf 44 = .ok (.aaload, 1) := qdE50 (by decide +kernel)
theorem dX11_salesOf_45 : decode cX11_salesOf 45 = .ok (.aload_n 1, 1) := qdE43 (by decide +kernel)
theorem dX11_salesOf_46 : decode cX11_salesOf 46 = .ok (.invokevirtual 535, 3) := qdE182 (by decide +kernel)
theorem dX11_salesOf_49 : decode cX11_salesOf 49 = .ok (.iadd, 1) := qdE96 (by decide +kernel)
theorem dX11_salesOf_50 : decode cX11_salesOf 50 = .ok (.istore_n 3, 1) := qdE62 (by decide +kernel)
theorem dX11_salesOf_51 : decode cX11_salesOf 51 = .ok (.iinc 4 1, 3) := qdE132 (by decide +kernel)
theorem dX11_salesOf_54 : decode cX11_salesOf 54 = .ok (.goto (-49), 3) := qdE167 (by decide +kernel)
theorem dX11_salesOf_57 : decode cX11_salesOf 57 = .ok (.iload_n 3, 1) := qdE29 (by decide +kernel)
theorem dX11_salesOf_58 : decode cX11_salesOf 58 = .ok (.ireturn, 1) := qdE172 (by decide +kernel)
theorem dX11_moneyOfOrders_0 : decode cX11_moneyOfOrders 0 = .ok (.iconst 0, 1) := qdE3 (by decide +kernel)
theorem dX11_moneyOfOrders_1 : decode cX11_moneyOfOrders 1 = .ok (.istore_n 1, 1) := qdE60 (by decide +kernel)
theorem dX11_moneyOfOrders_2 : decode cX11_moneyOfOrders 2 = .ok (.iconst 0, 1) := qdE3 (by decide +kernel)
theorem dX11_moneyOfOrders_3 : decode cX11_moneyOfOrders 3 = .ok (.istore_n 2, 1) := qdE61 (by decide +kernel)
theorem dX11_moneyOfOrders_4 : decode cX11_moneyOfOrders 4 = .ok (.iload_n 2, 1) := qdE28 (by decide +kernel)
theorem dX11_moneyOfOrders_5 : decode cX11_moneyOfOrders 5 = .ok (.aload_n 0, 1) := qdE42 (by decide +kernel)
theorem dX11_moneyOfOrders_6 : decode cX11_moneyOfOrders 6 = .ok (.getfield 366, 3) := qdE180 (by decide +kernel)
theorem dX11_moneyOfOrders_9 : decode cX11_moneyOfOrders 9 = .ok (.if_icmp .ge 21, 3) := qdE162 (by decide +kernel)
theorem dX11_moneyOfOrders_12 : decode cX11_moneyOfOrders 12 = .ok (.iload_n 1, 1) := qdE27 (by decide +kernel)
theorem dX11_moneyOfOrders_13 : decode cX11_moneyOfOrders 13 = .ok (.aload_n 0, 1) := qdE42 (by decide +kernel)
theorem dX11_moneyOfOrders_14 : decode cX11_moneyOfOrders 14 = .ok (.getfield 48, 3) := qdE180 (by decide +kernel)
theorem dX11_moneyOfOrders_17 : decode cX11_moneyOfOrders 17 = .ok (.iload_n 2, 1) := qdE28 (by decide +kernel)
theorem dX11_moneyOfOrders_18 : decode cX11_moneyOfOrders 18 = .ok (.aaload, 1) := qdE50 (by decide +kernel)
theorem dX11_moneyOfOrders_19 : decode cX11_moneyOfOrders 19 = .ok (.getfield 260, 3) := qdE180 (by decide +kernel)
theorem dX11_moneyOfOrders_22 : decode cX11_moneyOfOrders 22 = .ok (.iadd, 1) := qdE96 (by decide +kernel)
theorem dX11_moneyOfOrders_23 : decode cX11_moneyOfOrders 23 = .ok (.istore_n 1, 1) := qdE60 (by decide +kernel)
theorem dX11_moneyOfOrders_24 : decode cX11_moneyOfOrders 24 = .ok (.iinc 2 1, 3) := qdE132 (by decide +kernel)
theorem dX11_moneyOfOrders_27 : decode cX11_moneyOfOrders 27 = .ok (.goto (-23), 3) := qdE167 (by decide +kernel)
theorem dX11_moneyOfOrders_30 : decode cX11_moneyOfOrders 30 = .ok (.iload_n 1, 1) := qdE27 (by decide +kernel)
theorem dX11_moneyOfOrders_31 : decode cX11_moneyOfOrders 31 = .ok (.ireturn, 1) := qdE172 (by decide +kernel)
theorem dX11_creditOfOrders_0 : decode cX11_creditOfOrders 0 = .ok (.iconst 0, 1) := qdE3 (by decide +kernel)
theorem dX11_creditOfOrders_1 : decode cX11_creditOfOrders 1 = .ok (.istore_n 1, 1) := qdE60 (by decide +kernel)
theorem dX11_creditOfOrders_2 : decode cX11_creditOfOrders 2 = .ok (.iconst 0, 1) := qdE3 (by decide +kernel)
theorem dX11_creditOfOrders_3 : decode cX11_creditOfOrders 3 = .ok (.istore_n 2, 1) := qdE61 (by decide +kernel)
theorem dX11_creditOfOrders_4 : decode cX11_creditOfOrders 4 = .ok (.iload_n 2, 1) := qdE28 (by decide +kernel)
theorem dX11_creditOfOrders_5 : decode cX11_creditOfOrders 5 = .ok (.aload_n 0, 1) := qdE42 (by decide +kernel)
theorem dX11_creditOfOrders_6 : decode cX11_creditOfOrders 6 = .ok (.getfield 366, 3) := qdE180 (by decide +kernel)
theorem dX11_creditOfOrders_9 : decode cX11_creditOfOrders 9 = .ok (.if_icmp .ge 21, 3) := qdE162 (by decide +kernel)
theorem dX11_creditOfOrders_12 : decode cX11_creditOfOrders 12 = .ok (.iload_n 1, 1) := qdE27 (by decide +kernel)
theorem dX11_creditOfOrders_13 : decode cX11_creditOfOrders 13 = .ok (.aload_n 0, 1) := qdE42 (by decide +kernel)
theorem dX11_creditOfOrders_14 : decode cX11_creditOfOrders 14 = .ok (.getfield 48, 3) := qdE180 (by decide +kernel)
theorem dX11_creditOfOrders_17 : decode cX11_creditOfOrders 17 = .ok (.iload_n 2, 1) := qdE28 (by decide +kernel)
theorem dX11_creditOfOrders_18 : decode cX11_creditOfOrders 18 = .ok (.aaload, 1) := qdE50 (by decide +kernel)
theorem dX11_creditOfOrders_19 : decode cX11_creditOfOrders 19 = .ok (.getfield 261, 3) := qdE180 (by decide +kernel)
theorem dX11_creditOfOrders_22 : decode cX11_creditOfOrders 22 = .ok (.iadd, 1) := qdE96 (by decide +kernel)
theorem dX11_creditOfOrders_23 : decode cX11_creditOfOrders 23 = .ok (.istore_n 1, 1) := qdE60 (by decide +kernel)
theorem dX11_creditOfOrders_24 : decode cX11_creditOfOrders 24 = .ok (.iinc 2 1, 3) := qdE132 (by decide +kernel)
theorem dX11_creditOfOrders_27 : decode cX11_creditOfOrders 27 = .ok (.goto (-23), 3) := qdE167 (by decide +kernel)
theorem dX11_creditOfOrders_30 : decode cX11_creditOfOrders 30 = .ok (.iload_n 1, 1) := qdE27 (by decide +kernel)
theorem dX11_creditOfOrders_31 : decode cX11_creditOfOrders 31 = .ok (.ireturn, 1) := qdE172 (by decide +kernel)
theorem dX12_init_0 : decode cX12_init 0 = .ok (.aload_n 0, 1) := qdE42 (by decide +kernel)
theorem dX12_init_1 : decode cX12_init 1 = .ok (.invokespecial 1, 3) := qdE183 (by decide +kernel)
theorem dX12_init_4 : decode cX12_init 4 = .ok (.aload_n 0, 1) := qdE42 (by decide +kernel)
theorem dX12_init_5 : decode cX12_init 5 = .ok (.bipush 30, 2) := qdE16 (by decide +kernel)
theorem dX12_init_7 : decode cX12_init 7 = .ok (.newarray .int, 2) := by decide +kernel
theorem dX12_init_9 : decode cX12_init 9 = .ok (.putfield 7, 3) := qdE181 (by decide +kernel)
theorem dX12_init_12 : decode cX12_init 12 = .ok (.aload_n 0, 1) := qdE42 (by decide +kernel)
theorem dX12_init_13 : decode cX12_init 13 = .ok (.bipush 30, 2) := qdE16 (by decide +kernel)
theorem dX12_init_15 : decode cX12_init 15 = .ok (.newarray .int, 2) := by decide +kernel
theorem dX12_init_17 : decode cX12_init 17 = .ok (.putfield 13, 3) := qdE181 (by decide +kernel)
theorem dX12_init_20 : decode cX12_init 20 = .ok (.aload_n 0, 1) := qdE42 (by decide +kernel)
theorem dX12_init_21 : decode cX12_init 21 = .ok (.bipush 30, 2) := qdE16 (by decide +kernel)
theorem dX12_init_23 : decode cX12_init 23 = .ok (.newarray .int, 2) := by decide +kernel
theorem dX12_init_25 : decode cX12_init 25 = .ok (.putfield 16, 3) := qdE181 (by decide +kernel)
theorem dX12_init_28 : decode cX12_init 28 = .ok (.aload_n 0, 1) := qdE42 (by decide +kernel)
theorem dX12_init_29 : decode cX12_init 29 = .ok (.bipush 30, 2) := qdE16 (by decide +kernel)
theorem dX12_init_31 : decode cX12_init 31 = .ok (.newarray .int, 2) := by decide +kernel
theorem dX12_init_33 : decode cX12_init 33 = .ok (.putfield 19, 3) := qdE181 (by decide +kernel)
theorem dX12_init_36 : decode cX12_init 36 = .ok (.aload_n 0, 1) := qdE42 (by decide +kernel)
theorem dX12_init_37 : decode cX12_init 37 = .ok (.bipush 30, 2) := qdE16 (by decide +kernel)
theorem dX12_init_39 : decode cX12_init 39 = .ok (.newarray .int, 2) := by decide +kernel
theorem dX12_init_41 : decode cX12_init 41 = .ok (.putfield 22, 3) := qdE181 (by decide +kernel)
theorem dX12_init_44 : decode cX12_init 44 = .ok (.aload_n 0, 1) := qdE42 (by decide +kernel)
theorem dX12_init_45 : decode cX12_init 45 = .ok (.bipush 30, 2) := qdE16 (by decide +kernel)
theorem dX12_init_47 : decode cX12_init 47 = .ok (.newarray .int, 2) := by decide +kernel
theorem dX12_init_49 : decode cX12_init 49 = .ok (.putfield 25, 3) := qdE181 (by decide +kernel)
theorem dX12_init_52 : decode cX12_init 52 = .ok (.aload_n 0, 1) := qdE42 (by decide +kernel)
theorem dX12_init_53 : decode cX12_init 53 = .ok (.bipush 120, 2) := qdE16 (by decide +kernel)
theorem dX12_init_55 : decode cX12_init 55 = .ok (.newarray .int, 2) := by decide +kernel
theorem dX12_init_57 : decode cX12_init 57 = .ok (.putfield 28, 3) := qdE181 (by decide +kernel)
theorem dX12_init_60 : decode cX12_init 60 = .ok (.aload_n 0, 1) := qdE42 (by decide +kernel)
theorem dX12_init_61 : decode cX12_init 61 = .ok (.bipush 120, 2) := qdE16 (by decide +kernel)
theorem dX12_init_63 : decode cX12_init 63 = .ok (.newarray .int, 2) := by decide +kernel
theorem dX12_init_65 : decode cX12_init 65 = .ok (.putfield 31, 3) := qdE181 (by decide +kernel)
theorem dX12_init_68 : decode cX12_init 68 = .ok (.aload_n 0, 1) := qdE42 (by decide +kernel)
theorem dX12_init_69 : decode cX12_init 69 = .ok (.bipush 120, 2) := qdE16 (by decide +kernel)
theorem dX12_init_71 : decode cX12_init 71 = .ok (.newarray .int, 2) := by decide +kernel
theorem dX12_init_73 : decode cX12_init 73 = .ok (.putfield 34, 3) := qdE181 (by decide +kernel)
theorem dX12_init_76 : decode cX12_init 76 = .ok (.aload_n 0, 1) := qdE42 (by decide +kernel)
theorem dX12_init_77 : decode cX12_init 77 = .ok (.bipush 30, 2) := qdE16 (by decide +kernel)
theorem dX12_init_79 : decode cX12_init 79 = .ok (.newarray .int, 2) := by decide +kernel
theorem dX12_init_81 : decode cX12_init 81 = .ok (.putfield 37, 3) := qdE181 (by decide +kernel)
theorem dX12_init_84 : decode cX12_init 84 = .ok (.aload_n 0, 1) := qdE42 (by decide +kernel)
theorem dX12_init_85 : decode cX12_init 85 = .ok (.bipush 60, 2) := qdE16 (by decide +kernel)
theorem dX12_init_87 : decode cX12_init 87 = .ok (.newarray .int, 2) := by decide +kernel
theorem dX12_init_89 : decode cX12_init 89 = .ok (.putfield 40, 3) := qdE181 (by decide +kernel)
theorem dX12_init_92 : decode cX12_init 92 = .ok (.aload_n 0, 1) := qdE42 (by decide +kernel)
theorem dX12_init_93 : decode cX12_init 93 = .ok (.bipush 60, 2) := qdE16 (by decide +kernel)
theorem dX12_init_95 : decode cX12_init 95 = .ok (.newarray .int, 2) := by decide +kernel
theorem dX12_init_97 : decode cX12_init 97 = .ok (.putfield 43, 3) := qdE181 (by decide +kernel)
theorem dX12_init_100 : decode cX12_init 100 = .ok (.aload_n 0, 1) := qdE42 (by decide +kernel)
theorem dX12_init_101 : decode cX12_init 101 = .ok (.bipush 60, 2) := qdE16 (by decide +kernel)
theorem dX12_init_103 : decode cX12_init 103 = .ok (.newarray .int, 2) := by decide +kernel
theorem dX12_init_105 : decode cX12_init 105 = .ok (.putfield 46, 3) := qdE181 (by decide +kernel)
theorem dX12_init_108 : decode cX12_init 108 = .ok (.aload_n 0, 1) := qdE42 (by decide +kernel)
theorem dX12_init_109 : decode cX12_init 109 = .ok (.iconst 4, 1) := qdE7 (by decide +kernel)
theorem dX12_init_110 : decode cX12_init 110 = .ok (.newarray .int, 2) := by decide +kernel
theorem dX12_init_112 : decode cX12_init 112 = .ok (.putfield 49, 3) := qdE181 (by decide +kernel)
theorem dX12_init_115 : decode cX12_init 115 = .ok (.aload_n 0, 1) := qdE42 (by decide +kernel)
theorem dX12_init_116 : decode cX12_init 116 = .ok (.iconst 4, 1) := qdE7 (by decide +kernel)
theorem dX12_init_117 : decode cX12_init 117 = .ok (.newarray .int, 2) := by decide +kernel
theorem dX12_init_119 : decode cX12_init 119 = .ok (.putfield 52, 3) := qdE181 (by decide +kernel)
theorem dX12_init_122 : decode cX12_init 122 = .ok (.aload_n 0, 1) := qdE42 (by decide +kernel)
theorem dX12_init_123 : decode cX12_init 123 = .ok (.bipush 30, 2) := qdE16 (by decide +kernel)
theorem dX12_init_125 : decode cX12_init 125 = .ok (.newarray .int, 2) := by decide +kernel
theorem dX12_init_127 : decode cX12_init 127 = .ok (.putfield 55, 3) := qdE181 (by decide +kernel)
theorem dX12_init_130 : decode cX12_init 130 = .ok (.aload_n 0, 1) := qdE42 (by decide +kernel)
theorem dX12_init_131 : decode cX12_init 131 = .ok (.sipush 400, 3) := qdE17 (by decide +kernel)
theorem dX12_init_134 : decode cX12_init 134 = .ok (.newarray .int, 2) := by decide +kernel
theorem dX12_init_136 : decode cX12_init 136 = .ok (.putfield 58, 3) := qdE181 (by decide +kernel)
theorem dX12_init_139 : decode cX12_init 139 = .ok (.aload_n 0, 1) := qdE42 (by decide +kernel)
theorem dX12_init_140 : decode cX12_init 140 = .ok (.iconst (-1), 1) := qdE2 (by decide +kernel)
theorem dX12_init_141 : decode cX12_init 141 = .ok (.putfield 61, 3) := qdE181 (by decide +kernel)
theorem dX12_init_144 : decode cX12_init 144 = .ok (.aload_n 0, 1) := qdE42 (by decide +kernel)
theorem dX12_init_145 : decode cX12_init 145 = .ok (.bipush 8, 2) := qdE16 (by decide +kernel)
theorem dX12_init_147 : decode cX12_init 147 = .ok (.newarray .int, 2) := by decide +kernel
theorem dX12_init_149 : decode cX12_init 149 = .ok (.putfield 65, 3) := qdE181 (by decide +kernel)
theorem dX12_init_152 : decode cX12_init 152 = .ok (.aload_n 0, 1) := qdE42 (by decide +kernel)
theorem dX12_init_153 : decode cX12_init 153 = .ok (.bipush 8, 2) := qdE16 (by decide +kernel)
theorem dX12_init_155 : decode cX12_init 155 = .ok (.newarray .int, 2) := by decide +kernel
theorem dX12_init_157 : decode cX12_init 157 = .ok (.putfield 68, 3) := qdE181 (by decide +kernel)
theorem dX12_init_160 : decode cX12_init 160 = .ok (.aload_n 0, 1) := qdE42 (by decide +kernel)
theorem dX12_init_161 : decode cX12_init 161 = .ok (.bipush 64, 2) := qdE16 (by decide +kernel)
theorem dX12_init_163 : decode cX12_init 163 = .ok (.newarray .boolean, 2) := by decide +kernel
theorem dX12_init_165 : decode cX12_init 165 = .ok (.putfield 71, 3) := qdE181 (by decide +kernel)
theorem dX12_init_168 : decode cX12_init 168 = .ok (.aload_n 0, 1) := qdE42 (by decide +kernel)
theorem dX12_init_169 : decode cX12_init 169 = .ok (.bipush 64, 2) := qdE16 (by decide +kernel)
theorem dX12_init_171 : decode cX12_init 171 = .ok (.newarray .int, 2) := by decide +kernel
theorem dX12_init_173 : decode cX12_init 173 = .ok (.putfield 75, 3) := qdE181 (by decide +kernel)
theorem dX12_init_176 : decode cX12_init 176 = .ok (.aload_n 0, 1) := qdE42 (by decide +kernel)
theorem dX12_init_177 : decode cX12_init 177 = .ok (.bipush 64, 2) := qdE16 (by decide +kernel)
theorem dX12_init_179 : decode cX12_init 179 = .ok (.newarray .int, 2) := by decide +kernel
theorem dX12_init_181 : decode cX12_init 181 = .ok (.putfield 78, 3) := qdE181 (by decide +kernel)
theorem dX12_init_184 : decode cX12_init 184 = .ok (.aload_n 0, 1) := qdE42 (by decide +kernel)
theorem dX12_init_185 : decode cX12_init 185 = .ok (.bipush 64, 2) := qdE16 (by decide +kernel)
theorem dX12_init_187 : decode cX12_init 187 = .ok (.newarray .int, 2) := by decide +kernel
theorem dX12_init_189 : decode cX12_init 189 = .ok (.putfield 81, 3) := qdE181 (by decide +kernel)
theorem dX12_init_192 : decode cX12_init 192 = .ok (.aload_n 0, 1) := qdE42 (by decide +kernel)
theorem dX12_init_193 : decode cX12_init 193 = .ok (.bipush 64, 2) := qdE16 (by decide +kernel)
theorem dX12_init_195 : decode cX12_init 195 = .ok (.newarray .int, 2) := by decide +kernel
theorem dX12_init_197 : decode cX12_init 197 = .ok (.putfield 84, 3) := qdE181 (by decide +kernel)
theorem dX12_init_200 : decode cX12_init 200 = .ok (.aload_n 0, 1) := qdE42 (by decide +kernel)
theorem dX12_init_201 : decode cX12_init 201 = .ok (.bipush 64, 2) := qdE16 (by decide +kernel)
theorem dX12_init_203 : decode cX12_init 203 = .ok (.newarray .int, 2) := by decide +kernel
theorem dX12_init_205 : decode cX12_init 205 = .ok (.putfield 87, 3) := qdE181 (by decide +kernel)
theorem dX12_init_208 : decode cX12_init 208 = .ok (.aload_n 0, 1) := qdE42 (by decide +kernel)
theorem dX12_init_209 : decode cX12_init 209 = .ok (.sipush 512, 3) := qdE17 (by decide +kernel)
theorem dX12_init_212 : decode cX12_init 212 = .ok (.newarray .int, 2) := by decide +kernel
theorem dX12_init_214 : decode cX12_init 214 = .ok (.putfield 90, 3) := qdE181 (by decide +kernel)
theorem dX12_init_217 : decode cX12_init 217 = .ok (.aload_n 0, 1) := qdE42 (by decide +kernel)
theorem dX12_init_218 : decode cX12_init 218 = .ok (.sipush 512, 3) := qdE17 (by decide +kernel)
theorem dX12_init_221 : decode cX12_init 221 = .ok (.newarray .int, 2) := by decide +kernel
theorem dX12_init_223 : decode cX12_init 223 = .ok (.putfield 93, 3) := qdE181 (by decide +kernel)
theorem dX12_init_226 : decode cX12_init 226 = .ok (.aload_n 0, 1) := qdE42 (by decide +kernel)
theorem dX12_init_227 : decode cX12_init 227 = .ok (.bipush 60, 2) := qdE16 (by decide +kernel)
theorem dX12_init_229 : decode cX12_init 229 = .ok (.newarray .int, 2) := by decide +kernel
theorem dX12_init_231 : decode cX12_init 231 = .ok (.putfield 96, 3) := qdE181 (by decide +kernel)
theorem dX12_init_234 : decode cX12_init 234 = .ok (.aload_n 0, 1) := qdE42 (by decide +kernel)
theorem dX12_init_235 : decode cX12_init 235 = .ok (.bipush 60, 2) := qdE16 (by decide +kernel)
theorem dX12_init_237 : decode cX12_init 237 = .ok (.newarray .int, 2) := by decide +kernel
theorem dX12_init_239 : decode cX12_init 239 = .ok (.putfield 99, 3) := qdE181 (by decide +kernel)
theorem dX12_init_242 : decode cX12_init 242 = .ok (.aload_n 0, 1) := qdE42 (by decide +kernel)
theorem dX12_init_243 : decode cX12_init 243 = .ok (.bipush 60, 2) := qdE16 (by decide +kernel)
theorem dX12_init_245 : decode cX12_init 245 = .ok (.newarray .int, 2) := by decide +kernel
theorem dX12_init_247 : decode cX12_init 247 = .ok (.putfield 102, 3) := qdE181 (by decide +kernel)
theorem dX12_init_250 : decode cX12_init 250 = .ok (.aload_n 0, 1) := qdE42 (by decide +kernel)
theorem dX12_init_251 : decode cX12_init 251 = .ok (.bipush 60, 2) := qdE16 (by decide +kernel)
theorem dX12_init_253 : decode cX12_init 253 = .ok (.newarray .int, 2) := by decide +kernel
theorem dX12_init_255 : decode cX12_init 255 = .ok (.putfield 105, 3) := qdE181 (by decide +kernel)
theorem dX12_init_258 : decode cX12_init 258 = .ok (.aload_n 0, 1) := qdE42 (by decide +kernel)
theorem dX12_init_259 : decode cX12_init 259 = .ok (.bipush 60, 2) := qdE16 (by decide +kernel)
theorem dX12_init_261 : decode cX12_init 261 = .ok (.newarray .int, 2) := by decide +kernel
theorem dX12_init_263 : decode cX12_init 263 = .ok (.putfield 108, 3) := qdE181 (by decide +kernel)
theorem dX12_init_266 : decode cX12_init 266 = .ok (.aload_n 0, 1) := qdE42 (by decide +kernel)
theorem dX12_init_267 : decode cX12_init 267 = .ok (.sipush 480, 3) := qdE17 (by decide +kernel)
theorem dX12_init_270 : decode cX12_init 270 = .ok (.newarray .int, 2) := by decide +kernel
theorem dX12_init_272 : decode cX12_init 272 = .ok (.putfield 111, 3) := qdE181 (by decide +kernel)
theorem dX12_init_275 : decode cX12_init 275 = .ok (.aload_n 0, 1) := qdE42 (by decide +kernel)
theorem dX12_init_276 : decode cX12_init 276 = .ok (.sipush 480, 3) := qdE17 (by decide +kernel)
theorem dX12_init_279 : decode cX12_init 279 = .ok (.newarray .int, 2) := by decide +kernel
theorem dX12_init_281 : decode cX12_init 281 = .ok (.putfield 114, 3) := qdE181 (by decide +kernel)
theorem dX12_init_284 : decode cX12_init 284 = .ok (.aload_n 0, 1) := qdE42 (by decide +kernel)
theorem dX12_init_285 : decode cX12_init 285 = .ok (.sipush 480, 3) := qdE17 (by decide +kernel)
theorem dX12_init_288 : decode cX12_init 288 = .ok (.newarray .int, 2) := by decide +kernel
theorem dX12_init_290 : decode cX12_init 290 = .ok (.putfield 117, 3) := qdE181 (by decide +kernel)
theorem dX12_init_293 : decode cX12_init 293 = .ok (.aload_n 0, 1) := qdE42 (by decide +kernel)
theorem dX12_init_294 : decode cX12_init 294 = .ok (.sipush 480, 3) := qdE17 (by decide +kernel)
theorem dX12_init_297 : decode cX12_init 297 = .ok (.newarray .int, 2) := by decide +kernel
theorem dX12_init_299 : decode cX12_init 299 = .ok (.putfield 120, 3) := qdE181 (by decide +kernel)
theorem dX12_init_302 : decode cX12_init 302 = .ok (.aload_n 0, 1) := qdE42 (by decide +kernel)
theorem dX12_init_303 : decode cX12_init 303 = .ok (.sipush 480, 3) := qdE17 (by decide +kernel)
theorem dX12_init_306 : decode cX12_init 306 = .ok (.newarray .int, 2) := by decide +kernel
theorem dX12_init_308 : decode cX12_init 308 = .ok (.putfield 123, 3) := qdE181 (by decide +kernel)
theorem dX12_init_311 : decode cX12_init 311 = .ok (.aload_n 0, 1) := qdE42 (by decide +kernel)
theorem dX12_init_312 : decode cX12_init 312 = .ok (.sipush 480, 3) := qdE17 (by decide +kernel)
theorem dX12_init_315 : decode cX12_init 315 = .ok (.newarray .int, 2) := by decide +kernel
theorem dX12_init_317 : decode cX12_init 317 = .ok (.putfield 126, 3) := qdE181 (by decide +kernel)
theorem dX12_init_320 : decode cX12_init 320 = .ok (.aload_n 0, 1) := qdE42 (by decide +kernel)
theorem dX12_init_321 : decode cX12_init 321 = .ok (.sipush 480, 3) := qdE17 (by decide +kernel)
theorem dX12_init_324 : decode cX12_init 324 = .ok (.newarray .int, 2) := by decide +kernel
theorem dX12_init_326 : decode cX12_init 326 = .ok (.putfield 129, 3) := qdE181 (by decide +kernel)
theorem dX12_init_329 : decode cX12_init 329 = .ok (.aload_n 0, 1) := qdE42 (by decide +kernel)
theorem dX12_init_330 : decode cX12_init 330 = .ok (.sipush 480, 3) := qdE17 (by decide +kernel)
theorem dX12_init_333 : decode cX12_init 333 = .ok (.newarray .int, 2) := by decide +kernel
theorem dX12_init_335 : decode cX12_init 335 = .ok (.putfield 132, 3) := qdE181 (by decide +kernel)
theorem dX12_init_338 : decode cX12_init 338 = .ok (.aload_n 0, 1) := qdE42 (by decide +kernel)
theorem dX12_init_339 : decode cX12_init 339 = .ok (.sipush 480, 3) := qdE17 (by decide +kernel)
theorem dX12_init_342 : decode cX12_init 342 = .ok (.newarray .int, 2) := by decide +kernel
theorem dX12_init_344 : decode cX12_init 344 = .ok (.putfield 135, 3) := qdE181 (by decide +kernel)
theorem dX12_init_347 : decode cX12_init 347 = .ok (.aload_n 0, 1) := qdE42 (by decide +kernel)
theorem dX12_init_348 : decode cX12_init 348 = .ok (.sipush 480, 3) := qdE17 (by decide +kernel)
theorem dX12_init_351 : decode cX12_init 351 = .ok (.newarray .int, 2) := by decide +kernel
theorem dX12_init_353 : decode cX12_init 353 = .ok (.putfield 138, 3) := qdE181 (by decide +kernel)
theorem dX12_init_356 : decode cX12_init 356 = .ok (.aload_n 0, 1) := qdE42 (by decide +kernel)
theorem dX12_init_357 : decode cX12_init 357 = .ok (.sipush 300, 3) := qdE17 (by decide +kernel)
theorem dX12_init_360 : decode cX12_init 360 = .ok (.newarray .int, 2) := by decide +kernel
theorem dX12_init_362 : decode cX12_init 362 = .ok (.putfield 141, 3) := qdE181 (by decide +kernel)
theorem dX12_init_365 : decode cX12_init 365 = .ok (.aload_n 0, 1) := qdE42 (by decide +kernel)
theorem dX12_init_366 : decode cX12_init 366 = .ok (.sipush 300, 3) := qdE17 (by decide +kernel)
theorem dX12_init_369 : decode cX12_init 369 = .ok (.newarray .int, 2) := by decide +kernel
theorem dX12_init_371 : decode cX12_init 371 = .ok (.putfield 144, 3) := qdE181 (by decide +kernel)
theorem dX12_init_374 : decode cX12_init 374 = .ok (.aload_n 0, 1) := qdE42 (by decide +kernel)
theorem dX12_init_375 : decode cX12_init 375 = .ok (.sipush 300, 3) := qdE17 (by decide +kernel)
theorem dX12_init_378 : decode cX12_init 378 = .ok (.newarray .int, 2) := by decide +kernel
theorem dX12_init_380 : decode cX12_init 380 = .ok (.putfield 147, 3) := qdE181 (by decide +kernel)
theorem dX12_init_383 : decode cX12_init 383 = .ok (.aload_n 0, 1) := qdE42 (by decide +kernel)
theorem dX12_init_384 : decode cX12_init 384 = .ok (.sipush 300, 3) := qdE17 (by decide +kernel)
theorem dX12_init_387 : decode cX12_init 387 = .ok (.newarray .int, 2) := by decide +kernel
theorem dX12_init_389 : decode cX12_init 389 = .ok (.putfield 150, 3) := qdE181 (by decide +kernel)
theorem dX12_init_392 : decode cX12_init 392 = .ok (.aload_n 0, 1) := qdE42 (by decide +kernel)
theorem dX12_init_393 : decode cX12_init 393 = .ok (.bipush 30, 2) := qdE16 (by decide +kernel)
theorem dX12_init_395 : decode cX12_init 395 = .ok (.newarray .int, 2) := by decide +kernel
theorem dX12_init_397 : decode cX12_init 397 = .ok (.putfield 153, 3) := qdE181 (by decide +kernel)
theorem dX12_init_400 : decode cX12_init 400 = .ok (.aload_n 0, 1) := qdE42 (by decide +kernel)
theorem dX12_init_401 : decode cX12_init 401 = .ok (.sipush 800, 3) := qdE17 (by decide +kernel)
theorem dX12_init_404 : decode cX12_init 404 = .ok (.newarray .int, 2) := by decide +kernel
theorem dX12_init_406 : decode cX12_init 406 = .ok (.putfield 156, 3) := qdE181 (by decide +kernel)
theorem dX12_init_409 : decode cX12_init 409 = .ok (.aload_n 0, 1) := qdE42 (by decide +kernel)
theorem dX12_init_410 : decode cX12_init 410 = .ok (.bipush 10, 2) := qdE16 (by decide +kernel)
theorem dX12_init_412 : decode cX12_init 412 = .ok (.newarray .int, 2) := by decide +kernel
theorem dX12_init_414 : decode cX12_init 414 = .ok (.putfield 159, 3) := qdE181 (by decide +kernel)
theorem dX12_init_417 : decode cX12_init 417 = .ok (.aload_n 0, 1) := qdE42 (by decide +kernel)
theorem dX12_init_418 : decode cX12_init 418 = .ok (.sipush 10240, 3) := qdE17 (by decide +kernel)
theorem dX12_init_421 : decode cX12_init 421 = .ok (.newarray .int, 2) := by decide +kernel
theorem dX12_init_423 : decode cX12_init 423 = .ok (.putfield 162, 3) := qdE181 (by decide +kernel)
theorem dX12_init_426 : decode cX12_init 426 = .ok (.aload_n 0, 1) := qdE42 (by decide +kernel)
theorem dX12_init_427 : decode cX12_init 427 = .ok (.getfield 49, 3) := qdE180 (by decide +kernel)
theorem dX12_init_430 : decode cX12_init 430 = .ok (.iconst 0, 1) := qdE3 (by decide +kernel)
theorem dX12_init_431 : decode cX12_init 431 = .ok (.bipush 10, 2) := qdE16 (by decide +kernel)
theorem dX12_init_433 : decode cX12_init 433 = .ok (.iastore, 1) := qdE79 (by decide +kernel)
theorem dX12_init_434 : decode cX12_init 434 = .ok (.aload_n 0, 1) := qdE42 (by decide +kernel)
theorem dX12_init_435 : decode cX12_init 435 = .ok (.getfield 49, 3) := qdE180 (by decide +kernel)
theorem dX12_init_438 : decode cX12_init 438 = .ok (.iconst 1, 1) := qdE4 (by decide +kernel)
theorem dX12_init_439 : decode cX12_init 439 = .ok (.bipush 50, 2) := qdE16 (by decide +kernel)
theorem dX12_init_441 : decode cX12_init 441 = .ok (.iastore, 1) := qdE79 (by decide +kernel)
theorem dX12_init_442 : decode cX12_init 442 = .ok (.aload_n 0, 1) := qdE42 (by decide +kernel)
theorem dX12_init_443 : decode cX12_init 443 = .ok (.getfield 49, 3) := qdE180 (by decide +kernel)
theorem dX12_init_446 : decode cX12_init 446 = .ok (.iconst 2, 1) := qdE5 (by decide +kernel)
theorem dX12_init_447 : decode cX12_init 447 = .ok (.sipush 10000, 3) := qdE17 (by decide +kernel)
theorem dX12_init_450 : decode cX12_init 450 = .ok (.iastore, 1) := qdE79 (by decide +kernel)
theorem dX12_init_451 : decode cX12_init 451 = .ok (.aload_n 0, 1) := qdE42 (by decide +kernel)
theorem dX12_init_452 : decode cX12_init 452 = .ok (.getfield 49, 3) := qdE180 (by decide +kernel)
theorem dX12_init_455 : decode cX12_init 455 = .ok (.iconst 3, 1) := qdE6 (by decide +kernel)
theorem dX12_init_456 : decode cX12_init 456 = .ok (.bipush 14, 2) := qdE16 (by decide +kernel)
theorem dX12_init_458 : decode cX12_init 458 = .ok (.iastore, 1) := qdE79 (by decide +kernel)
theorem dX12_init_459 : decode cX12_init 459 = .ok (.iconst 0, 1) := qdE3 (by decide +kernel)
theorem dX12_init_460 : decode cX12_init 460 = .ok (.istore_n 1, 1) := qdE60 (by decide +kernel)
theorem dX12_init_461 : decode cX12_init 461 = .ok (.iload_n 1, 1) := qdE27 (by decide +kernel)
theorem dX12_init_462 : decode cX12_init 462 = .ok (.bipush 30, 2) := qdE16 (by decide +kernel)
theorem dX12_init_464 : decode cX12_init 464 = .ok (.if_icmp .ge 16, 3) := qdE162 (by decide +kernel)
theorem dX12_init_467 : decode cX12_init 467 = .ok (.aload_n 0, 1) := qdE42 (by decide +kernel)
theorem dX12_init_468 : decode cX12_init 468 = .ok (.getfield 37, 3) := qdE180 (by decide +kernel)
theorem dX12_init_471 : decode cX12_init 471 = .ok (.iload_n 1, 1) := qdE27 (by decide +kernel)
theorem dX12_init_472 : decode cX12_init 472 = .ok (.iconst (-1), 1) := qdE2 (by decide +kernel)
theorem dX12_init_473 : decode cX12_init 473 = .ok (.iastore, 1) := qdE79 (by decide +kernel)
theorem dX12_init_474 : decode cX12_init 474 = .ok (.iinc 1 1, 3) := qdE132 (by decide +kernel)
theorem dX12_init_477 : decode cX12_init 477 = .ok (.goto (-16), 3) := qdE167 (by decide +kernel)
theorem dX12_init_480 : decode cX12_init 480 = .ok (.return_, 1) := qdE177 (by decide +kernel)
theorem dX12_isIn_0 : decode cX12_isIn 0 = .ok (.iload_n 0, 1) := qdE26 (by decide +kernel)
theorem dX12_isIn_1 : decode cX12_isIn 1 = .ok (.iload_n 1, 1) := qdE27 (by decide +kernel)
theorem dX12_isIn_2 : decode cX12_isIn 2 = .ok (.if_icmp .lt 12, 3) := qdE161 (by decide +kernel)
theorem dX12_isIn_5 : decode cX12_isIn 5 = .ok (.iload_n 0, 1) := qdE26 (by decide +kernel)
theorem dX12_isIn_6 : decode cX12_isIn 6 = .ok (.iload_n 2, 1) := qdE28 (by decide +kernel)
theorem dX12_isIn_7 : decode cX12_isIn 7 = .ok (.if_icmp .gt 7, 3) := qdE163 (by decide +kernel)
theorem dX12_isIn_10 : decode cX12_isIn 10 = .ok (.iconst 1, 1) := qdE4 (by decide +kernel)
theorem dX12_isIn_11 : decode cX12_isIn 11 = .ok (.goto 4, 3) := qdE167 (by decide +kernel)
theorem dX12_isIn_14 : decode cX12_isIn 14 = .ok (.iconst 0, 1) := qdE3 (by decide +kernel)
theorem dX12_isIn_15 : decode cX12_isIn 15 = .ok (.ireturn, 1) := qdE172 (by decide +kernel)
theorem dX12_isThing_0 : decode cX12_isThing 0 = .ok (.iload_n 1, 1) := qdE27 (by decide +kernel)
theorem dX12_isThing_1 : decode cX12_isThing 1 = .ok (.ifCond .lt 15, 3) := qdE155 (by decide +kernel)
theorem dX12_isThing_4 : decode cX12_isThing 4 = .ok (.iload_n 1, 1) := qdE27 (by decide +kernel)
theorem dX12_isThing_5 : decode cX12_isThing 5 = .ok (.aload_n 0, 1) := qdE42 (by decide +kernel)
theorem dX12_isThing_6 : decode cX12_isThing 6 = .ok (.getfield 168, 3) := qdE180 (by decide +kernel)
theorem dX12_isThing_9 : decode cX12_isThing 9 = .ok (.if_icmp .ge 7, 3) := qdE162 (by decide +kernel)
theorem dX12_isThing_12 : decode cX12_isThing 12 = .ok (.iconst 1, 1) := qdE4 (by decide +kernel)
theorem dX12_isThing_13 : decode cX12_isThing 13 = .ok (.goto 4, 3) := qdE167 (by decide +kernel)
theorem dX12_isThing_16 : decode cX12_isThing 16 = .ok (.iconst 0, 1) := qdE3 (by decide +kernel)
theorem dX12_isThing_17 : decode cX12_isThing 17 = .ok (.ireturn, 1) := qdE172 (by decide +kernel)
theorem dX12_isOrder_0 : decode cX12_isOrder 0 = .ok (.iload_n 1, 1) := qdE27 (by decide +kernel)
theorem dX12_isOrder_1 : decode cX12_isOrder 1 = .ok (.ifCond .lt 15, 3) := qdE155 (by decide +kernel)
theorem dX12_isOrder_4 : decode cX12_isOrder 4 = .ok (.iload_n 1, 1) := qdE27 (by decide +kernel)
theorem dX12_isOrder_5 : decode cX12_isOrder 5 = .ok (.aload_n 0, 1) := qdE42 (by decide +kernel)
theorem dX12_isOrder_6 : decode cX12_isOrder 6 = .ok (.getfield 171, 3) := qdE180 (by decide +kernel)
theorem dX12_isOrder_9 : decode cX12_isOrder 9 = .ok (.if_icmp .ge 7, 3) := qdE162 (by decide +kernel)
theorem dX12_isOrder_12 : decode cX12_isOrder 12 = .ok (.iconst 1, 1) := qdE4 (by decide +kernel)
theorem dX12_isOrder_13 : decode cX12_isOrder 13 = .ok (.goto 4, 3) := qdE167 (by decide +kernel)
theorem dX12_isOrder_16 : decode cX12_isOrder 16 = .ok (.iconst 0, 1) := qdE3 (by decide +kernel)
theorem dX12_isOrder_17 : decode cX12_isOrder 17 = .ok (.ireturn, 1) := qdE172 (by decide +kernel)
set_option maxRecDepth 20000 in
theorem glX12_isWant_0 : GoodIn wsX12_isWant ([Cond.fieldLink RX12 108 "PostHouseModel" "wants" "[I", Cond.methodLink RX12 174 yX12_isOrder, Cond.instanceMethod yX12_isOrder, Cond.selects RX12 yX12_isOrder yX12_isOrder, Cond.initialized RX12, Cond.code yX12_isOrder cX12_isOrder 2 (some .boolean), Cond.fieldLink RX12 171 "PostHouseModel" "orders" "I"]) := goodIn_sub (fun _ h => List.mem_cons_of_mem _ (List.mem_append_left _ (h))) (by decide +kernel)
set_option maxRecDepth 20000 in
theorem glX12_isWant_1 : GoodIn wsX12_isWant (wsX120) := goodIn_sub (fun _ h => List.mem_cons_of_mem _ (List.mem_append_right _ (h))) ag_wsX120
set_option maxRecDepth 20000 in
theorem ggX12_isWant_X12_isOrder : GoodIn wsX12_isWant wsX12_isOrder := goodIn_c (glX12_isWant_0 _ (List.mem_of_getElem? (i := 5) rfl)) (goodIn_app (goodIn_c (glX12_isWant_0 _ (List.mem_of_getElem? (i := 6) rfl)) (goodIn_n)) (glX12_isWant_1))
set_option maxRecDepth 20000 in
theorem gX12_isWant_X12_isOrder : GoodIn wsX12_isWant (wsV RX12 174 RX12 yX12_isOrder wsX12_isOrder) := goodIn_app (goodIn_c (glX12_isWant_0 _ (List.mem_of_getElem? (i := 1) rfl)) (goodIn_c (glX12_isWant_0 _ (List.mem_of_getElem? (i := 2) rfl)) (goodIn_c (glX12_isWant_0 _ (List.mem_of_getElem? (i := 3) rfl)) (goodIn_c (glX12_isWant_0 _ (List.mem_of_getElem? (i := 4) rfl)) (goodIn_n))))) ggX12_isWant_X12_isOrder
theorem dX12_isWant_0 : decode cX12_isWant 0 = .ok (.aload_n 0, 1) := qdE42 (by decide +kernel)
theorem dX12_isWant_1 : decode cX12_isWant 1 = .ok (.iload_n 1, 1) := qdE27 (by decide +kernel)
theorem dX12_isWant_2 : decode cX12_isWant 2 = .ok (.invokevirtual 174, 3) := qdE182 (by decide +kernel)
theorem dX12_isWant_5 : decode cX12_isWant 5 = .ok (.ifCond .eq 21, 3) := qdE153 (by decide +kernel)
theorem dX12_isWant_8 : decode cX12_isWant 8 = .ok (.iload_n 2, 1) := qdE28 (by decide +kernel)
theorem dX12_isWant_9 : decode cX12_isWant 9 = .ok (.ifCond .lt 17, 3) := qdE155 (by decide +kernel)
theorem dX12_isWant_12 : decode cX12_isWant 12 = .ok (.iload_n 2, 1) := qdE28 (by decide +kernel)
theorem dX12_isWant_13 : decode cX12_isWant 13 = .ok (.aload_n 0, 1) := qdE42 (by decide +kernel)
theorem dX12_isWant_14 : decode cX12_isWant 14 = .ok (.getfield 108, 3) := qdE180 (by decide +kernel)
theorem dX12_isWant_17 : decode cX12_isWant 17 = .ok (.iload_n 1, 1) := qdE27 (by decide +kernel)
theorem dX12_isWant_18 : decode cX12_isWant 18 = .ok (.iaload, 1) := qdE46 (by decide +kernel)
theorem dX12_isWant_19 : decode cX12_isWant 19 = .ok (.if_icmp .ge 7, 3) := qdE162 (by decide +kernel)
theorem dX12_isWant_22 : decode cX12_isWant 22 = .ok (.iconst 1, 1) := qdE4 (by decide +kernel)
theorem dX12_isWant_23 : decode cX12_isWant 23 = .ok (.goto 4, 3) := qdE167 (by decide +kernel)
theorem dX12_isWant_26 : decode cX12_isWant 26 = .ok (.iconst 0, 1) := qdE3 (by decide +kernel)
theorem dX12_isWant_27 : decode cX12_isWant 27 = .ok (.ireturn, 1) := qdE172 (by decide +kernel)
theorem dX12_byteCame_0 : decode cX12_byteCame 0 = .ok (.aload_n 0, 1) := qdE42 (by decide +kernel)
theorem dX12_byteCame_1 : decode cX12_byteCame 1 = .ok (.getfield 58, 3) := qdE180 (by decide +kernel)
theorem dX12_byteCame_4 : decode cX12_byteCame 4 = .ok (.aload_n 0, 1) := qdE42 (by decide +kernel)
theorem dX12_byteCame_5 : decode cX12_byteCame 5 = .ok (.getfield 178, 3) := qdE180 (by decide +kernel)
theorem dX12_byteCame_8 : decode cX12_byteCame 8 = .ok (.iload_n 1, 1) := qdE27 (by decide +kernel)
theorem dX12_byteCame_9 : decode cX12_byteCame 9 = .ok (.sipush 255, 3) := qdE17 (by decide +kernel)
theorem dX12_byteCame_12 : decode cX12_byteCame 12 = .ok (.iand, 1) := qdE126 (by decide +kernel)
theorem dX12_byteCame_13 : decode cX12_byteCame 13 = .ok (.iastore, 1) := qdE79 (by decide +kernel)
theorem dX12_byteCame_14 : decode cX12_byteCame 14 = .ok (.aload_n 0, 1) := qdE42 (by decide +kernel)
theorem dX12_byteCame_15 : decode cX12_byteCame 15 = .ok (.dup, 1) := qdE89 (by decide +kernel)
theorem dX12_byteCame_16 : decode cX12_byteCame 16 = .ok (.getfield 178, 3) := qdE180 (by decide +kernel)
theorem dX12_byteCame_19 : decode cX12_byteCame 19 = .ok (.iconst 1, 1) := qdE4 (by decide +kernel)
theorem dX12_byteCame_20 : decode cX12_byteCame 20 = .ok (.iadd, 1) := qdE96 (by decide +kernel)
theorem dX12_byteCame_21 : decode cX12_byteCame 21 = .ok (.putfield 178, 3) := qdE181 (by decide +kernel)
theorem dX12_byteCame_24 : decode cX12_byteCame 24 = .ok (.return_, 1) := qdE177 (by decide +kernel)
set_option maxRecDepth 20000 in
theorem glX12_feed_0 : GoodIn wsX12_feed ([Cond.fieldLink RX12 165 "PostHouseModel" "thrown" "I", Cond.fieldLink RX12 178 "PostHouseModel" "taped" "I", Cond.methodLink RX12 181 yX12_byteCame, Cond.instanceMethod yX12_byteCame, Cond.selects RX12 yX12_byteCame yX12_byteCame, Cond.initialized RX12, Cond.code yX12_byteCame cX12_byteCame 2 none, Cond.fieldLink RX12 58 "PostHouseModel" "tape" "[I"]) := goodIn_sub (fun _ h => List.mem_cons_of_mem _ (List.mem_append_left _ (h))) (by decide +kernel)
set_option maxRecDepth 20000 in
theorem glX12_feed_1 : GoodIn wsX12_feed (wsX120) := goodIn_sub (fun _ h => List.mem_cons_of_mem _ (List.mem_append_right _ (h))) ag_wsX120
set_option maxRecDepth 20000 in
theorem ggX12_feed_X12_byteCame : GoodIn wsX12_feed wsX12_byteCame := goodIn_c (glX12_feed_0 _ (List.mem_of_getElem? (i := 6) rfl)) (goodIn_app (goodIn_c (glX12_feed_0 _ (List.mem_of_getElem? (i := 7) rfl)) (goodIn_c (glX12_feed_0 _ (List.mem_of_getElem? (i := 1) rfl)) (goodIn_n))) (glX12_feed_1))
set_option maxRecDepth 20000 in
theorem gX12_feed_X12_byteCame : GoodIn wsX12_feed (wsV RX12 181 RX12 yX12_byteCame wsX12_byteCame) := goodIn_app (goodIn_c (glX12_feed_0 _ (List.mem_of_getElem? (i := 2) rfl)) (goodIn_c (glX12_feed_0 _ (List.mem_of_getElem? (i := 3) rfl)) (goodIn_c (glX12_feed_0 _ (List.mem_of_getElem? (i := 4) rfl)) (goodIn_c (glX12_feed_0 _ (List.mem_of_getElem? (i := 5) rfl)) (goodIn_n))))) ggX12_feed_X12_byteCame
theorem dX12_feed_0 : decode cX12_feed 0 = .ok (.aload_n 0, 1) := qdE42 (by decide +kernel)
theorem dX12_feed_1 : decode cX12_feed 1 = .ok (.iconst 0, 1) := qdE3 (by decide +kernel)
theorem dX12_feed_2 : decode cX12_feed 2 = .ok (.putfield 165, 3) := qdE181 (by decide +kernel)
theorem dX12_feed_5 : decode cX12_feed 5 = .ok (.aload_n 0, 1) := qdE42 (by decide +kernel)
theorem dX12_feed_6 : decode cX12_feed 6 = .ok (.getfield 178, 3) := qdE180 (by decide +kernel)
theorem dX12_feed_9 : decode cX12_feed 9 = .ok (.bipush 20, 2) := qdE16 (by decide +kernel)
theorem dX12_feed_11 : decode cX12_feed 11 = .ok (.iadd, 1) := qdE96 (by decide +kernel)
theorem dX12_feed_12 : decode cX12_feed 12 = .ok (.sipush 400, 3) := qdE17 (by decide +kernel)
theorem dX12_feed_15 : decode cX12_feed 15 = .ok (.if_icmp .le 5, 3) := qdE164 (by decide +kernel)
theorem dX12_feed_18 : decode cX12_feed 18 = .ok (.iconst (-1), 1) := qdE2 (by decide +kernel)
theorem dX12_feed_19 : decode cX12_feed 19 = .ok (.ireturn, 1) := qdE172 (by decide +kernel)
theorem dX12_feed_20 : decode cX12_feed 20 = .ok (.bipush 24, 2) := qdE16 (by decide +kernel)
theorem dX12_feed_22 : decode cX12_feed 22 = .ok (.istore 6, 2) := qdE54 (by decide +kernel)
theorem dX12_feed_24 : decode cX12_feed 24 = .ok (.iload 6, 2) := qdE21 (by decide +kernel)
theorem dX12_feed_26 : decode cX12_feed 26 = .ok (.ifCond .lt 17, 3) := qdE155 (by decide +kernel)
theorem dX12_feed_29 : decode cX12_feed 29 = .ok (.aload_n 0, 1) := qdE42 (by decide +kernel)
theorem dX12_feed_30 : decode cX12_feed 30 = .ok (.iload_n 1, 1) := qdE27 (by decide +kernel)
theorem dX12_feed_31 : decode cX12_feed 31 = .ok (.iload 6, 2) := qdE21 (by decide +kernel)
theorem dX12_feed_33 : decode cX12_feed 33 = .ok (.ishr, 1) := qdE122 (by decide +kernel)
theorem dX12_feed_34 : decode cX12_feed 34 = .ok (.invokevirtual 181, 3) := qdE182 (by decide +kernel)
theorem dX12_feed_37 : decode cX12_feed 37 = .ok (.iinc 6 (-8), 3) := qdE132 (by decide +kernel)
theorem dX12_feed_40 : decode cX12_feed 40 = .ok (.goto (-16), 3) := qdE167 (by decide +kernel)
theorem dX12_feed_43 : decode cX12_feed 43 = .ok (.bipush 24, 2) := qdE16 (by decide +kernel)
theorem dX12_feed_45 : decode cX12_feed 45 = .ok (.istore 6, 2) := qdE54 (by decide +kernel)
theorem dX12_feed_47 : decode cX12_feed 47 = .ok (.iload 6, 2) := qdE21 (by decide +kernel)
theorem dX12_feed_49 : decode cX12_feed 49 = .ok (.ifCond .lt 17, 3) := qdE155 (by decide +kernel)
theorem dX12_feed_52 : decode cX12_feed 52 = .ok (.aload_n 0, 1) := qdE42 (by decide +kernel)
theorem dX12_feed_53 : decode cX12_feed 53 = .ok (.iload_n 2, 1) := qdE28 (by decide +kernel)
theorem dX12_feed_54 : decode cX12_feed 54 = .ok (.iload 6, 2) := qdE21 (by decide +kernel)
theorem dX12_feed_56 : decode cX12_feed 56 = .ok (.ishr, 1) := qdE122 (by decide +kernel)
theorem dX12_feed_57 : decode cX12_feed 57 = .ok (.invokevirtual 181, 3) := qdE182 (by decide +kernel)
theorem dX12_feed_60 : decode cX12_feed 60 = .ok (.iinc 6 (-8), 3) := qdE132 (by decide +kernel)
theorem dX12_feed_63 : decode cX12_feed 63 = .ok (.goto (-16), 3) := qdE167 (by decide +kernel)
theorem dX12_feed_66 : decode cX12_feed 66 = .ok (.bipush 24, 2) := qdE16 (by decide +kernel)
theorem dX12_feed_68 : decode cX12_feed 68 = .ok (.istore 6, 2) := qdE54 (by decide +kernel)
theorem dX12_feed_70 : decode cX12_feed 70 = .ok (.iload 6, 2) := qdE21 (by decide +kernel)
theorem dX12_feed_72 : decode cX12_feed 72 = .ok (.ifCond .lt 17, 3) := qdE155 (by decide +kernel)
theorem dX12_feed_75 : decode cX12_feed 75 = .ok (.aload_n 0, 1) := qdE42 (by decide +kernel)
theorem dX12_feed_76 : decode cX12_feed 76 = .ok (.iload_n 3, 1) := qdE29 (by decide +kernel)
theorem dX12_feed_77 : decode cX12_feed 77 = .ok (.iload 6, 2) := qdE21 (by decide +kernel)
theorem dX12_feed_79 : decode cX12_feed 79 = .ok (.ishr, 1) := qdE122 (by decide +kernel)
theorem dX12_feed_80 : decode cX12_feed 80 = .ok (.invokevirtual 181, 3) := qdE182 (by decide +kernel)
theorem dX12_feed_83 : decode cX12_feed 83 = .ok (.iinc 6 (-8), 3) := qdE132 (by decide +kernel)
theorem dX12_feed_86 : decode cX12_feed 86 = .ok (.goto (-16), 3) := qdE167 (by decide +kernel)
theorem dX12_feed_89 : decode cX12_feed 89 = .ok (.bipush 24, 2) := qdE16 (by decide +kernel)
theorem dX12_feed_91 : decode cX12_feed 91 = .ok (.istore 6, 2) := qdE54 (by decide +kernel)
theorem dX12_feed_93 : decode cX12_feed 93 = .ok (.iload 6, 2) := qdE21 (by decide +kernel)
theorem dX12_feed_95 : decode cX12_feed 95 = .ok (.ifCond .lt 18, 3) := qdE155 (by decide +kernel)
theorem dX12_feed_98 : decode cX12_feed 98 = .ok (.aload_n 0, 1) := qdE42 (by decide +kernel)
theorem dX12_feed_99 : decode cX12_feed 99 = .ok (.iload 4, 2) := qdE21 (by decide +kernel)
theorem dX12_feed_101 : decode cX12_feed 101 = .ok (.iload 6, 2) := qdE21 (by decide +kernel)
theorem dX12_feed_103 : decode cX12_feed 103 = .ok (.ishr, 1) := qdE122 (by decide +kernel)
theorem dX12_feed_104 : decode cX12_feed 104 = .ok (.invokevirtual 181, 3) := qdE182 (by decide +kernel)
theorem dX12_feed_107 : decode cX12_feed 107 = .ok (.iinc 6 (-8), 3) := qdE132 (by decide +kernel)
theorem dX12_feed_110 : decode cX12_feed 110 = .ok (.goto (-17), 3) := qdE167 (by decide +kernel)
theorem dX12_feed_113 : decode cX12_feed 113 = .ok (.bipush 24, 2) := qdE16 (by decide +kernel)
theorem dX12_feed_115 : decode cX12_feed 115 = .ok (.istore 6, 2) := qdE54 (by decide +kernel)
theorem dX12_feed_117 : decode cX12_feed 117 = .ok (.iload 6, 2) := qdE21 (by decide +kernel)
theorem dX12_feed_119 : decode cX12_feed 119 = .ok (.ifCond .lt 18, 3) := qdE155 (by decide +kernel)
theorem dX12_feed_122 : decode cX12_feed 122 = .ok (.aload_n 0, 1) := qdE42 (by decide +kernel)
theorem dX12_feed_123 : decode cX12_feed 123 = .ok (.iload 5, 2) := qdE21 (by decide +kernel)
theorem dX12_feed_125 : decode cX12_feed 125 = .ok (.iload 6, 2) := qdE21 (by decide +kernel)
theorem dX12_feed_127 : decode cX12_feed 127 = .ok (.ishr, 1) := qdE122 (by decide +kernel)
theorem dX12_feed_128 : decode cX12_feed 128 = .ok (.invokevirtual 181, 3) := qdE182 (by decide +kernel)
theorem dX12_feed_131 : decode cX12_feed 131 = .ok (.iinc 6 (-8), 3) := qdE132 (by decide +kernel)
theorem dX12_feed_134 : decode cX12_feed 134 = .ok (.goto (-17), 3) := qdE167 (by decide +kernel)
theorem dX12_feed_137 : decode cX12_feed 137 = .ok (.aload_n 0, 1) := qdE42 (by decide +kernel)
theorem dX12_feed_138 : decode cX12_feed 138 = .ok (.getfield 178, 3) := qdE180 (by decide +kernel)
theorem dX12_feed_141 : decode cX12_feed 141 = .ok (.ireturn, 1) := qdE172 (by decide +kernel)
theorem dX12_end_0 : decode cX12_end 0 = .ok (.aload_n 0, 1) := qdE42 (by decide +kernel)
theorem dX12_end_1 : decode cX12_end 1 = .ok (.iconst 0, 1) := qdE3 (by decide +kernel)
theorem dX12_end_2 : decode cX12_end 2 = .ok (.putfield 165, 3) := qdE181 (by decide +kernel)
theorem dX12_end_5 : decode cX12_end 5 = .ok (.iload_n 1, 1) := qdE27 (by decide +kernel)
theorem dX12_end_6 : decode cX12_end 6 = .ok (.ifCond .lt 11, 3) := qdE155 (by decide +kernel)
theorem dX12_end_9 : decode cX12_end 9 = .ok (.iload_n 1, 1) := qdE27 (by decide +kernel)
theorem dX12_end_10 : decode cX12_end 10 = .ok (.aload_n 0, 1) := qdE42 (by decide +kernel)
theorem dX12_end_11 : decode cX12_end 11 = .ok (.getfield 178, 3) := qdE180 (by decide +kernel)
theorem dX12_end_14 : decode cX12_end 14 = .ok (.if_icmp .le 5, 3) := qdE164 (by decide +kernel)
theorem dX12_end_17 : decode cX12_end 17 = .ok (.iconst 0, 1) := qdE3 (by decide +kernel)
theorem dX12_end_18 : decode cX12_end 18 = .ok (.ireturn, 1) := qdE172 (by decide +kernel)
theorem dX12_end_19 : decode cX12_end 19 = .ok (.aload_n 0, 1) := qdE42 (by decide +kernel)
theorem dX12_end_20 : decode cX12_end 20 = .ok (.iload_n 1, 1) := qdE27 (by decide +kernel)
theorem dX12_end_21 : decode cX12_end 21 = .ok (.putfield 178, 3) := qdE181 (by decide +kernel)
theorem dX12_end_24 : decode cX12_end 24 = .ok (.iconst 1, 1) := qdE4 (by decide +kernel)
theorem dX12_end_25 : decode cX12_end 25 = .ok (.ireturn, 1) := qdE172 (by decide +kernel)
theorem dX12_thingOf_0 : decode cX12_thingOf 0 = .ok (.iconst 0, 1) := qdE3 (by decide +kernel)
theorem dX12_thingOf_1 : decode cX12_thingOf 1 = .ok (.istore_n 2, 1) := qdE61 (by decide +kernel)
theorem dX12_thingOf_2 : decode cX12_thingOf 2 = .ok (.iload_n 2, 1) := qdE28 (by decide +kernel)
theorem dX12_thingOf_3 : decode cX12_thingOf 3 = .ok (.aload_n 0, 1) := qdE42 (by decide +kernel)
theorem dX12_thingOf_4 : decode cX12_thingOf 4 = .ok (.getfield 168, 3) := qdE180 (by decide +kernel)
theorem dX12_thingOf_7 : decode cX12_thingOf 7 = .ok (.if_icmp .ge 21, 3) := qdE162 (by decide +kernel)
theorem dX12_thingOf_10 : decode cX12_thingOf 10 = .ok (.aload_n 0, 1) := qdE42 (by decide +kernel)
theorem dX12_thingOf_11 : decode cX12_thingOf 11 = .ok (.getfield 7, 3) := qdE180 (by decide +kernel)
theorem dX12_thingOf_14 : decode cX12_thingOf 14 = .ok (.iload_n 2, 1) := qdE28 (by decide +kernel)
theorem dX12_thingOf_15 : decode cX12_thingOf 15 = .ok (.iaload, 1) := qdE46 (by decide +kernel)
theorem dX12_thingOf_16 : decode cX12_thingOf 16 = .ok (.iload_n 1, 1) := qdE27 (by decide +kernel)
theorem dX12_thingOf_17 : decode cX12_thingOf 17 = .ok (.if_icmp .ne 5, 3) := qdE160 (by decide +kernel)
theorem dX12_thingOf_20 : decode cX12_thingOf 20 = .ok (.iload_n 2, 1) := qdE28 (by decide +kernel)
theorem dX12_thingOf_21 : decode cX12_thingOf 21 = .ok (.ireturn, 1) := qdE172 (by decide +kernel)
theorem dX12_thingOf_22 : decode cX12_thingOf 22 = .ok (.iinc 2 1, 3) := qdE132 (by decide +kernel)
theorem dX12_thingOf_25 : decode cX12_thingOf 25 = .ok (.goto (-23), 3) := qdE167 (by decide +kernel)
theorem dX12_thingOf_28 : decode cX12_thingOf 28 = .ok (.iconst (-1), 1) := qdE2 (by decide +kernel)
theorem dX12_thingOf_29 : decode cX12_thingOf 29 = .ok (.ireturn, 1) := qdE172 (by decide +kernel)
set_option maxRecDepth 20000 in
theorem glX12_thing_0 : GoodIn wsX12_thing ([Cond.fieldLink RX12 168 "PostHouseModel" "things" "I", Cond.fieldLink RX12 165 "PostHouseModel" "thrown" "I", Cond.fieldLink RX12 7 "PostHouseModel" "code" "[I", Cond.fieldLink RX12 13 "PostHouseModel" "weight" "[I", Cond.fieldLink RX12 16 "PostHouseModel" "street" "[I", Cond.fieldLink RX12 19 "PostHouseModel" "place" "[I", Cond.fieldLink RX12 22 "PostHouseModel" "stock" "[I", Cond.fieldLink RX12 25 "PostHouseModel" "prices" "[I", Cond.methodLink RX12 185 yX12_isIn, Cond.static yX12_isIn, Cond.initialized RX12, Cond.code yX12_isIn cX12_isIn 3 (some .boolean), Cond.methodLink RX12 189 yX12_thingOf, Cond.instanceMethod yX12_thingOf, Cond.selects RX12 yX12_thingOf yX12_thingOf, Cond.code yX12_thingOf cX12_thingOf 3 (some .int)]) := goodIn_sub (fun _ h => List.mem_cons_of_mem _ (List.mem_append_left _ (h))) (by decide +kernel)
set_option maxRecDepth 20000 in
theorem ggX12_thing_X12_isIn : GoodIn wsX12_thing wsX12_isIn := goodIn_c (glX12_thing_0 _ (List.mem_of_getElem? (i := 11) rfl)) (goodIn_n)
set_option maxRecDepth 20000 in
theorem gX12_thing_X12_isIn : GoodIn wsX12_thing (va_wsS RX12 185 yX12_isIn wsX12_isIn) := goodIn_app (goodIn_c (glX12_thing_0 _ (List.mem_of_getElem? (i := 8) rfl)) (goodIn_c (glX12_thing_0 _ (List.mem_of_getElem? (i := 9) rfl)) (goodIn_c (glX12_thing_0 _ (List.mem_of_getElem? (i := 10) rfl)) (goodIn_n)))) ggX12_thing_X12_isIn
set_option maxRecDepth 20000 in
theorem glX12_thing_1 : GoodIn wsX12_thing (wsX120) := goodIn_sub (fun _ h => List.mem_cons_of_mem _ (List.mem_append_right _ (h))) ag_wsX120
set_option maxRecDepth 20000 in
theorem ggX12_thing_X12_thingOf : GoodIn wsX12_thing wsX12_thingOf := goodIn_c (glX12_thing_0 _ (List.mem_of_getElem? (i := 15) rfl)) (goodIn_app (goodIn_c (glX12_thing_0 _ (List.mem_of_getElem? (i := 0) rfl)) (goodIn_c (glX12_thing_0 _ (List.mem_of_getElem? (i := 2) rfl)) (goodIn_n))) (glX12_thing_1))
set_option maxRecDepth 20000 in
theorem gX12_thing_X12_thingOf : GoodIn wsX12_thing (wsV RX12 189 RX12 yX12_thingOf wsX12_thingOf) := goodIn_app (goodIn_c (glX12_thing_0 _ (List.mem_of_getElem? (i := 12) rfl)) (goodIn_c (glX12_thing_0 _ (List.mem_of_getElem? (i := 13) rfl)) (goodIn_c (glX12_thing_0 _ (List.mem_of_getElem? (i := 14) rfl)) (goodIn_c (glX12_thing_0 _ (List.mem_of_getElem? (i := 10) rfl)) (goodIn_n))))) ggX12_thing_X12_thingOf
theorem dX12_thing_0 : decode cX12_thing 0 = .ok (.iload_n 1, 1) := qdE27 (by decide +kernel)
theorem dX12_thing_1 : decode cX12_thing 1 = .ok (.iconst 0, 1) := qdE3 (by decide +kernel)
theorem dX12_thing_2 : decode cX12_thing 2 = .ok (.sipush 9999, 3) := qdE17 (by decide +kernel)
theorem dX12_thing_5 : decode cX12_thing 5 = .ok (.invokestatic 185, 3) := qdE184 (by decide +kernel)
theorem dX12_thing_8 : decode cX12_thing 8 = .ok (.ifCond .eq 48, 3) := qdE153 (by decide +kernel)
theorem dX12_thing_11 : decode cX12_thing 11 = .ok (.iload_n 2, 1) := qdE28 (by decide +kernel)
theorem dX12_thing_12 : decode cX12_thing 12 = .ok (.iconst 1, 1) := qdE4 (by decide +kernel)
theorem dX12_thing_13 : decode cX12_thing 13 = .ok (.sipush 2000, 3) := qdE17 (by decide +kernel)
theorem dX12_thing_16 : decode cX12_thing 16 = .ok (.invokestatic 185, 3) := qdE184 (by decide +kernel)
theorem dX12_thing_19 : decode cX12_thing 19 = .ok (.ifCond .eq 37, 3) := qdE153 (by decide +kernel)
theorem dX12_thing_22 : decode cX12_thing 22 = .ok (.iload_n 3, 1) := qdE29 (by decide +kernel)
theorem dX12_thing_23 : decode cX12_thing 23 = .ok (.iconst 0, 1) := qdE3 (by decide +kernel)
theorem dX12_thing_24 : decode cX12_thing 24 = .ok (.bipush 7, 2) := qdE16 (by decide +kernel)
theorem dX12_thing_26 : decode cX12_thing 26 = .ok (.invokestatic 185, 3) := qdE184 (by decide +kernel)
theorem dX12_thing_29 : decode cX12_thing 29 = .ok (.ifCond .eq 27, 3) := qdE153 (by decide +kernel)
theorem dX12_thing_32 : decode cX12_thing 32 = .ok (.iload 4, 2) := qdE21 (by decide +kernel)
theorem dX12_thing_34 : decode cX12_thing 34 = .ok (.iconst 1, 1) := qdE4 (by decide +kernel)
theorem dX12_thing_35 : decode cX12_thing 35 = .ok (.bipush 20, 2) := qdE16 (by decide +kernel)
theorem dX12_thing_37 : decode cX12_thing 37 = .ok (.invokestatic 185, 3) := qdE184 (by decide +kernel)
theorem dX12_thing_40 : decode cX12_thing 40 = .ok (.ifCond .eq 16, 3) := qdE153 (by decide +kernel)
theorem dX12_thing_43 : decode cX12_thing 43 = .ok (.aload_n 0, 1) := qdE42 (by decide +kernel)
theorem dX12_thing_44 : decode cX12_thing 44 = .ok (.iload_n 1, 1) := qdE27 (by decide +kernel)
theorem dX12_thing_45 : decode cX12_thing 45 = .ok (.invokevirtual 189, 3) := qdE182 (by decide +kernel)
theorem dX12_thing_48 : decode cX12_thing 48 = .ok (.iconst (-1), 1) := qdE2 (by decide +kernel)
theorem dX12_thing_49 : decode cX12_thing 49 = .ok (.if_icmp .ne 7, 3) := qdE160 (by decide +kernel)
theorem dX12_thing_52 : decode cX12_thing 52 = .ok (.iconst 1, 1) := qdE4 (by decide +kernel)
theorem dX12_thing_53 : decode cX12_thing 53 = .ok (.goto 4, 3) := qdE167 (by decide +kernel)
theorem dX12_thing_56 : decode cX12_thing 56 = .ok (.iconst 0, 1) := qdE3 (by decide +kernel)
theorem dX12_thing_57 : decode cX12_thing 57 = .ok (.istore 5, 2) := qdE54 (by decide +kernel)
theorem dX12_thing_59 : decode cX12_thing 59 = .ok (.aload_n 0, 1) := qdE42 (by decide +kernel)
theorem dX12_thing_60 : decode cX12_thing 60 = .ok (.iload 5, 2) := qdE21 (by decide +kernel)
theorem dX12_thing_62 : decode cX12_thing 62 = .ok (.ifCond .ne 7, 3) := qdE154 (by decide +kernel)
theorem dX12_thing_65 : decode cX12_thing 65 = .ok (.iconst 1, 1) := qdE4 (by decide +kernel)
theorem dX12_thing_66 : decode cX12_thing 66 = .ok (.goto 17, 3) := qdE167 (by decide +kernel)
theorem dX12_thing_69 : decode cX12_thing 69 = .ok (.aload_n 0, 1) := qdE42 (by decide +kernel)
theorem dX12_thing_70 : decode cX12_thing 70 = .ok (.getfield 168, 3) := qdE180 (by decide +kernel)
theorem dX12_thing_73 : decode cX12_thing 73 = .ok (.bipush 30, 2) := qdE16 (by decide +kernel)
theorem dX12_thing_75 : decode cX12_thing 75 = .ok (.if_icmp .ne 7, 3) := qdE160 (by decide +kernel)
theorem dX12_thing_78 : decode cX12_thing 78 = .ok (.iconst 2, 1) := qdE5 (by decide +kernel)
theorem dX12_thing_79 : decode cX12_thing 79 = .ok (.goto 4, 3) := qdE167 (by decide +kernel)
theorem dX12_thing_82 : decode cX12_thing 82 = .ok (.iconst 0, 1) := qdE3 (by decide +kernel)
theorem dX12_thing_83 : decode cX12_thing 83 = .ok (.putfield 165, 3) := qdE181 (by decide +kernel)
theorem dX12_thing_86 : decode cX12_thing 86 = .ok (.aload_n 0, 1) := qdE42 (by decide +kernel)
theorem dX12_thing_87 : decode cX12_thing 87 = .ok (.getfield 165, 3) := qdE180 (by decide +kernel)
theorem dX12_thing_90 : decode cX12_thing 90 = .ok (.ifCond .le 5, 3) := qdE158 (by decide +kernel)
theorem dX12_thing_93 : decode cX12_thing 93 = .ok (.iconst 0, 1) := qdE3 (by decide +kernel)
theorem dX12_thing_94 : decode cX12_thing 94 = .ok (.ireturn, 1) := qdE172 (by decide +kernel)
theorem dX12_thing_95 : decode cX12_thing 95 = .ok (.aload_n 0, 1) := qdE42 (by decide +kernel)
theorem dX12_thing_96 : decode cX12_thing 96 = .ok (.getfield 7, 3) := qdE180 (by decide +kernel)
theorem dX12_thing_99 : decode cX12_thing 99 = .ok (.aload_n 0, 1) := qdE42 (by decide +kernel)
theorem dX12_thing_100 : decode cX12_thing 100 = .ok (.getfield 168, 3) := qdE180 (by decide +kernel)
theorem dX12_thing_103 : decode cX12_thing 103 = .ok (.iload_n 1, 1) := qdE27 (by decide +kernel)
theorem dX12_thing_104 : decode cX12_thing 104 = .ok (.iastore, 1) := qdE79 (by decide +kernel)
theorem dX12_thing_105 : decode cX12_thing 105 = .ok (.aload_n 0, 1) := qdE42 (by decide +kernel)
theorem dX12_thing_106 : decode cX12_thing 106 = .ok (.getfield 13, 3) := qdE180 (by decide +kernel)
theorem dX12_thing_109 : decode cX12_thing 109 = .ok (.aload_n 0, 1) := qdE42 (by decide +kernel)
theorem dX12_thing_110 : decode cX12_thing 110 = .ok (.getfield 168, 3) := qdE180 (by decide +kernel)
theorem dX12_thing_113 : decode cX12_thing 113 = .ok (.iload_n 2, 1) := qdE28 (by decide +kernel)
theorem dX12_thing_114 : decode cX12_thing 114 = .ok (.iastore, 1) := qdE79 (by decide +kernel)
theorem dX12_thing_115 : decode cX12_thing 115 = .ok (.aload_n 0, 1) := qdE42 (by decide +kernel)
theorem dX12_thing_116 : decode cX12_thing 116 = .ok (.getfield 16, 3) := qdE180 (by decide +kernel)
theorem dX12_thing_119 : decode cX12_thing 119 = .ok (.aload_n 0, 1) := qdE42 (by decide +kernel)
theorem dX12_thing_120 : decode cX12_thing 120 = .ok (.getfield 168, 3) := qdE180 (by decide +kernel)
theorem dX12_thing_123 : decode cX12_thing 123 = .ok (.iload_n 3, 1) := qdE29 (by decide +kernel)
theorem dX12_thing_124 : decode cX12_thing 124 = .ok (.iastore, 1) := qdE79 (by decide +kernel)
theorem dX12_thing_125 : decode cX12_thing 125 = .ok (.aload_n 0, 1) := qdE42 (by decide +kernel)
theorem dX12_thing_126 : decode cX12_thing 126 = .ok (.getfield 19, 3) := qdE180 (by decide +kernel)
theorem dX12_thing_129 : decode cX12_thing 129 = .ok (.aload_n 0, 1) := qdE42 (by decide +kernel)
theorem dX12_thing_130 : decode cX12_thing 130 = .ok (.getfield 168, 3) := qdE180 (by decide +kernel)
theorem dX12_thing_133 : decode cX12_thing 133 = .ok (.iload 4, 2) := qdE21 (by decide +kernel)
theorem dX12_thing_135 : decode cX12_thing 135 = .ok (.iastore, 1) := qdE79 (by decide +kernel)
theorem dX12_thing_136 : decode cX12_thing 136 = .ok (.aload_n 0, 1) := qdE42 (by decide +kernel)
theorem dX12_thing_137 : decode cX12_thing 137 = .ok (.getfield 22, 3) := qdE180 (by decide +kernel)
theorem dX12_thing_140 : decode cX12_thing 140 = .ok (.aload_n 0, 1) := qdE42 (by decide +kernel)
theorem dX12_thing_141 : decode cX12_thing 141 = .ok (.getfield 168, 3) := qdE180 (by decide +kernel)
theorem dX12_thing_144 : decode cX12_thing 144 = .ok (.iconst 0, 1) := qdE3 (by decide +kernel)
theorem dX12_thing_145 : decode cX12_thing 145 = .ok (.iastore, 1) := qdE79 (by decide +kernel)
theorem dX12_thing_146 : decode cX12_thing 146 = .ok (.aload_n 0, 1) := qdE42 (by decide +kernel)
theorem dX12_thing_147 : decode cX12_thing 147 = .ok (.getfield 25, 3) := qdE180 (by decide +kernel)
theorem dX12_thing_150 : decode cX12_thing 150 = .ok (.aload_n 0, 1) := qdE42 (by decide +kernel)
theorem dX12_thing_151 : decode cX12_thing 151 = .ok (.getfield 168, 3) := qdE180 (by decide +kernel)
theorem dX12_thing_154 : decode cX12_thing 154 = .ok (.iconst 0, 1) := qdE3 (by decide +kernel)
theorem dX12_thing_155 : decode cX12_thing 155 = .ok (.iastore, 1) := qdE79 (by decide +kernel)
theorem dX12_thing_156 : decode cX12_thing 156 = .ok (.aload_n 0, 1) := qdE42 (by decide +kernel)
theorem dX12_thing_157 : decode cX12_thing 157 = .ok (.dup, 1) := qdE89 (by decide +kernel)
theorem dX12_thing_158 : decode cX12_thing 158 = .ok (.getfield 168, 3) := qdE180 (by decide +kernel)
theorem dX12_thing_161 : decode cX12_thing 161 = .ok (.iconst 1, 1) := qdE4 (by decide +kernel)
theorem dX12_thing_162 : decode cX12_thing 162 = .ok (.iadd, 1) := qdE96 (by decide +kernel)
theorem dX12_thing_163 : decode cX12_thing 163 = .ok (.putfield 168, 3) := qdE181 (by decide +kernel)
theorem dX12_thing_166 : decode cX12_thing 166 = .ok (.aload_n 0, 1) := qdE42 (by decide +kernel)
theorem dX12_thing_167 : decode cX12_thing 167 = .ok (.getfield 168, 3) := qdE180 (by decide +kernel)
theorem dX12_thing_170 : decode cX12_thing 170 = .ok (.iconst 1, 1) := qdE4 (by decide +kernel)
theorem dX12_thing_171 : decode cX12_thing 171 = .ok (.isub, 1) := qdE100 (by decide +kernel)
theorem dX12_thing_172 : decode cX12_thing 172 = .ok (.ireturn, 1) := qdE172 (by decide +kernel)
set_option maxRecDepth 20000 in
theorem glX12_price_0 : GoodIn wsX12_price ([Cond.fieldLink RX12 25 "PostHouseModel" "prices" "[I", Cond.fieldLink RX12 165 "PostHouseModel" "thrown" "I", Cond.fieldLink RX12 28 "PostHouseModel" "priceMoney" "[I", Cond.fieldLink RX12 31 "PostHouseModel" "priceFrom" "[I", Cond.fieldLink RX12 34 "PostHouseModel" "priceTo" "[I", Cond.methodLink RX12 185 yX12_isIn, Cond.static yX12_isIn, Cond.initialized RX12, Cond.code yX12_isIn cX12_isIn 3 (some .boolean), Cond.methodLink RX12 193 yX12_isThing, Cond.instanceMethod yX12_isThing, Cond.selects RX12 yX12_isThing yX12_isThing, Cond.code yX12_isThing cX12_isThing 2 (some .boolean), Cond.fieldLink RX12 168 "PostHouseModel" "things" "I"]) := goodIn_sub (fun _ h => List.mem_cons_of_mem _ (List.mem_append_left _ (h))) (by decide +kernel)
set_option maxRecDepth 20000 in
theorem ggX12_price_X12_isIn : GoodIn wsX12_price wsX12_isIn := goodIn_c (glX12_price_0 _ (List.mem_of_getElem? (i := 8) rfl)) (goodIn_n)
set_option maxRecDepth 20000 in
theorem gX12_price_X12_isIn : GoodIn wsX12_price (va_wsS RX12 185 yX12_isIn wsX12_isIn) := goodIn_app (goodIn_c (glX12_price_0 _ (List.mem_of_getElem? (i := 5) rfl)) (goodIn_c (glX12_price_0 _ (List.mem_of_getElem? (i := 6) rfl)) (goodIn_c (glX12_price_0 _ (List.mem_of_getElem? (i := 7) rfl)) (goodIn_n)))) ggX12_price_X12_isIn
set_option maxRecDepth 20000 in
theorem glX12_price_1 : GoodIn wsX12_price (wsX120) := goodIn_sub (fun _ h => List.mem_cons_of_mem _ (List.mem_append_right _ (h))) ag_wsX120
set_option maxRecDepth 20000 in
theorem ggX12_price_X12_isThing : GoodIn wsX12_price wsX12_isThing := goodIn_c (glX12_price_0 _ (List.mem_of_getElem? (i := 12) rfl)) (goodIn_app (goodIn_c (glX12_price_0 _ (List.mem_of_getElem? (i := 13) rfl)) (goodIn_n)) (glX12_price_1))
set_option maxRecDepth 20000 in
theorem gX12_price_X12_isThing : GoodIn wsX12_price (wsV RX12 193 RX12 yX12_isThing wsX12_isThing) := goodIn_app (goodIn_c (glX12_price_0 _ (List.mem_of_getElem? (i := 9) rfl)) (goodIn_c (glX12_price_0 _ (List.mem_of_getElem? (i := 10) rfl)) (goodIn_c (glX12_price_0 _ (List.mem_of_getElem? (i := 11) rfl)) (goodIn_c (glX12_price_0 _ (List.mem_of_getElem? (i := 7) rfl)) (goodIn_n))))) ggX12_price_X12_isThing
theorem dX12_price_0 : decode cX12_price 0 = .ok (.iload_n 2, 1) := qdE28 (by decide +kernel)
theorem dX12_price_1 : decode cX12_price 1 = .ok (.iconst 1, 1) := qdE4 (by decide +kernel)
theorem dX12_price_2 : decode cX12_price 2 = .ok (.sipush 10000, 3) := qdE17 (by decide +kernel)
theorem dX12_price_5 : decode cX12_price 5 = .ok (.invokestatic 185, 3) := qdE184 (by decide +kernel)
theorem dX12_price_8 : decode cX12_price 8 = .ok (.ifCond .eq 36, 3) := qdE153 (by decide +kernel)
theorem dX12_price_11 : decode cX12_price 11 = .ok (.iload_n 3, 1) := qdE29 (by decide +kernel)
theorem dX12_price_12 : decode cX12_price 12 = .ok (.iconst 0, 1) := qdE3 (by decide +kernel)
theorem dX12_price_13 : decode cX12_price 13 = .ok (.sipush 999, 3) := qdE17 (by decide +kernel)
theorem dX12_price_16 : decode cX12_price 16 = .ok (.invokestatic 185, 3) := qdE184 (by decide +kernel)
theorem dX12_price_19 : decode cX12_price 19 = .ok (.ifCond .eq 25, 3) := qdE153 (by decide +kernel)
theorem dX12_price_22 : decode cX12_price 22 = .ok (.iload 4, 2) := qdE21 (by decide +kernel)
theorem dX12_price_24 : decode cX12_price 24 = .ok (.iconst 0, 1) := qdE3 (by decide +kernel)
theorem dX12_price_25 : decode cX12_price 25 = .ok (.sipush 999, 3) := qdE17 (by decide +kernel)
theorem dX12_price_28 : decode cX12_price 28 = .ok (.invokestatic 185, 3) := qdE184 (by decide +kernel)
theorem dX12_price_31 : decode cX12_price 31 = .ok (.ifCond .eq 13, 3) := qdE153 (by decide +kernel)
theorem dX12_price_34 : decode cX12_price 34 = .ok (.iload_n 3, 1) := qdE29 (by decide +kernel)
theorem dX12_price_35 : decode cX12_price 35 = .ok (.iload 4, 2) := qdE21 (by decide +kernel)
theorem dX12_price_37 : decode cX12_price 37 = .ok (.if_icmp .gt 7, 3) := qdE163 (by decide +kernel)
theorem dX12_price_40 : decode cX12_price 40 = .ok (.iconst 1, 1) := qdE4 (by decide +kernel)
theorem dX12_price_41 : decode cX12_price 41 = .ok (.goto 4, 3) := qdE167 (by decide +kernel)
theorem dX12_price_44 : decode cX12_price 44 = .ok (.iconst 0, 1) := qdE3 (by decide +kernel)
theorem dX12_price_45 : decode cX12_price 45 = .ok (.istore 5, 2) := qdE54 (by decide +kernel)
theorem dX12_price_47 : decode cX12_price 47 = .ok (.aload_n 0, 1) := qdE42 (by decide +kernel)
theorem dX12_price_48 : decode cX12_price 48 = .ok (.aload_n 0, 1) := qdE42 (by decide +kernel)
theorem dX12_price_49 : decode cX12_price 49 = .ok (.iload_n 1, 1) := qdE27 (by decide +kernel)
theorem dX12_price_50 : decode cX12_price 50 = .ok (.invokevirtual 193, 3) := qdE182 (by decide +kernel)
theorem dX12_price_53 : decode cX12_price 53 = .ok (.ifCond .ne 7, 3) := qdE154 (by decide +kernel)
theorem dX12_price_56 : decode cX12_price 56 = .ok (.iconst 1, 1) := qdE4 (by decide +kernel)
theorem dX12_price_57 : decode cX12_price 57 = .ok (.goto 27, 3) := qdE167 (by decide +kernel)
theorem dX12_price_60 : decode cX12_price 60 = .ok (.iload 5, 2) := qdE21 (by decide +kernel)
theorem dX12_price_62 : decode cX12_price 62 = .ok (.ifCond .ne 7, 3) := qdE154 (by decide +kernel)
theorem dX12_price_65 : decode cX12_price 65 = .ok (.iconst 2, 1) := qdE5 (by decide +kernel)
theorem dX12_price_66 : decode cX12_price 66 = .ok (.goto 18, 3) := qdE167 (by decide +kernel)
theorem dX12_price_69 : decode cX12_price 69 = .ok (.aload_n 0, 1) := qdE42 (by decide +kernel)
theorem dX12_price_70 : decode cX12_price 70 = .ok (.getfield 25, 3) := qdE180 (by decide +kernel)
theorem dX12_price_73 : decode cX12_price 73 = .ok (.iload_n 1, 1) := qdE27 (by decide +kernel)
theorem dX12_price_74 : decode cX12_price 74 = .ok (.iaload, 1) := qdE46 (by decide +kernel)
theorem dX12_price_75 : decode cX12_price 75 = .ok (.iconst 4, 1) := qdE7 (by decide +kernel)
theorem dX12_price_76 : decode cX12_price 76 = .ok (.if_icmp .ne 7, 3) := qdE160 (by decide +kernel)
theorem dX12_price_79 : decode cX12_price 79 = .ok (.iconst 3, 1) := qdE6 (by decide +kernel)
theorem dX12_price_80 : decode cX12_price 80 = .ok (.goto 4, 3) := qdE167 (by decide +kernel)
theorem dX12_price_83 : decode cX12_price 83 = .ok (.iconst 0, 1) := qdE3 (by decide +kernel)
theorem dX12_price_84 : decode cX12_price 84 = .ok (.putfield 165, 3) := qdE181 (by decide +kernel)
theorem dX12_price_87 : decode cX12_price 87 = .ok (.aload_n 0, 1) := qdE42 (by decide +kernel)
theorem dX12_price_88 : decode cX12_price 88 = .ok (.getfield 165, 3) := qdE180 (by decide +kernel)
theorem dX12_price_91 : decode cX12_price 91 = .ok (.ifCond .le 5, 3) := qdE158 (by decide +kernel)
theorem dX12_price_94 : decode cX12_price 94 = .ok (.iconst 0, 1) := qdE3 (by decide +kernel)
theorem dX12_price_95 : decode cX12_price 95 = .ok (.ireturn, 1) := qdE172 (by decide +kernel)
theorem dX12_price_96 : decode cX12_price 96 = .ok (.iconst 4, 1) := qdE7 (by decide +kernel)
theorem dX12_price_97 : decode cX12_price 97 = .ok (.iload_n 1, 1) := qdE27 (by decide +kernel)
theorem dX12_price_98 : decode cX12_price 98 = .ok (.imul, 1) := qdE104 (by decide +kernel)
theorem dX12_price_99 : decode cX12_price 99 = .ok (.aload_n 0, 1) := qdE42 (by decide +kernel)
theorem dX12_price_100 : decode cX12_price 100 = .ok (.getfield 25, 3) := qdE180 (by decide +kernel)
theorem dX12_price_103 : decode cX12_price 103 = .ok (.iload_n 1, 1) := qdE27 (by decide +kernel)
theorem dX12_price_104 : decode cX12_price 104 = .ok (.iaload, 1) := qdE46 (by decide +kernel)
theorem dX12_price_105 : decode cX12_price 105 = .ok (.iadd, 1) := qdE96 (by decide +kernel)
theorem dX12_price_106 : decode cX12_price 106 = .ok (.istore 6, 2) := qdE54 (by decide +kernel)
theorem dX12_price_108 : decode cX12_price 108 = .ok (.aload_n 0, 1) := qdE42 (by decide +kernel)
theorem dX12_price_109 : decode cX12_price 109 = .ok (.getfield 28, 3) := qdE180 (by decide +kernel)
theorem dX12_price_112 : decode cX12_price 112 = .ok (.iload 6, 2) := qdE21 (by decide +kernel)
theorem dX12_price_114 : decode cX12_price 114 = .ok (.iload_n 2, 1) := qdE28 (by decide +kernel)
theorem dX12_price_115 : decode cX12_price 115 = .ok (.iastore, 1) := qdE79 (by decide +kernel)
theorem dX12_price_116 : decode cX12_price 116 = .ok (.aload_n 0, 1) := qdE42 (by decide +kernel)
theorem dX12_price_117 : decode cX12_price 117 = .ok (.getfield 31, 3) := qdE180 (by decide +kernel)
theorem dX12_price_120 : decode cX12_price 120 = .ok (.iload 6, 2) := qdE21 (by decide +kernel)
theorem dX12_price_122 : decode cX12_price 122 = .ok (.iload_n 3, 1) := qdE29 (by decide +kernel)
theorem dX12_price_123 : decode cX12_price 123 = .ok (.iastore, 1) := qdE79 (by decide +kernel)
theorem dX12_price_124 : decode cX12_price 124 = .ok (.aload_n 0, 1) := qdE42 (by decide +kernel)
theorem dX12_price_125 : decode cX12_price 125 = .ok (.getfield 34, 3) := qdE180 (by decide +kernel)
theorem dX12_price_128 : decode cX12_price 128 = .ok (.iload 6, 2) := qdE21 (by decide +kernel)
theorem dX12_price_130 : decode cX12_price 130 = .ok (.iload 4, 2) := qdE21 (by decide +kernel)
theorem dX12_price_132 : decode cX12_price 132 = .ok (.iastore, 1) := qdE79 (by decide +kernel)
theorem dX12_price_133 : decode cX12_price 133 = .ok (.aload_n 0, 1) := qdE42 (by decide +kernel)
theorem dX12_price_134 : decode cX12_price 134 = .ok (.getfield 25, 3) := qdE180 (by decide +kernel)
theorem dX12_price_137 : decode cX12_price 137 = .ok (.iload_n 1, 1) := qdE27 (by decide +kernel)
theorem dX12_price_138 : decode cX12_price 138 = .ok (.dup2, 1) := qdE92 (by decide +kernel)
theorem dX12_price_139 : decode cX12_price 139 = .ok (.iaload, 1) := qdE46 (by decide +kernel)
theorem dX12_price_140 : decode cX12_price 140 = .ok (.iconst 1, 1) := qdE4 (by decide +kernel)
theorem dX12_price_141 : decode cX12_price 141 = .ok (.iadd, 1) := qdE96 (by decide +kernel)
theorem dX12_price_142 : decode cX12_price 142 = .ok (.iastore, 1) := qdE79 (by decide +kernel)
theorem dX12_price_143 : decode cX12_price 143 = .ok (.aload_n 0, 1) := qdE42 (by decide +kernel)
theorem dX12_price_144 : decode cX12_price 144 = .ok (.getfield 25, 3) := qdE180 (by decide +kernel)
theorem dX12_price_147 : decode cX12_price 147 = .ok (.iload_n 1, 1) := qdE27 (by decide +kernel)
theorem dX12_price_148 : decode cX12_price 148 = .ok (.iaload, 1) := qdE46 (by decide +kernel)
theorem dX12_price_149 : decode cX12_price 149 = .ok (.ireturn, 1) := qdE172 (by decide +kernel)
theorem dX12_cost_0 : decode cX12_cost 0 = .ok (.iconst (-1), 1) := qdE2 (by decide +kernel)
theorem dX12_cost_1 : decode cX12_cost 1 = .ok (.istore_n 3, 1) := qdE62 (by decide +kernel)
theorem dX12_cost_2 : decode cX12_cost 2 = .ok (.iconst 4, 1) := qdE7 (by decide +kernel)
theorem dX12_cost_3 : decode cX12_cost 3 = .ok (.iload_n 1, 1) := qdE27 (by decide +kernel)
theorem dX12_cost_4 : decode cX12_cost 4 = .ok (.imul, 1) := qdE104 (by decide +kernel)
theorem dX12_cost_5 : decode cX12_cost 5 = .ok (.istore 4, 2) := qdE54 (by decide +kernel)
theorem dX12_cost_7 : decode cX12_cost 7 = .ok (.iload 4, 2) := qdE21 (by decide +kernel)
theorem dX12_cost_9 : decode cX12_cost 9 = .ok (.iconst 4, 1) := qdE7 (by decide +kernel)
theorem dX12_cost_10 : decode cX12_cost 10 = .ok (.iload_n 1, 1) := qdE27 (by decide +kernel)
theorem dX12_cost_11 : decode cX12_cost 11 = .ok (.imul, 1) := qdE104 (by decide +kernel)
theorem dX12_cost_12 : decode cX12_cost 12 = .ok (.aload_n 0, 1) := qdE42 (by decide +kernel)
theorem dX12_cost_13 : decode cX12_cost 13 = .ok (.getfield 25, 3) := qdE180 (by decide +kernel)
theorem dX12_cost_16 : decode cX12_cost 16 = .ok (.iload_n 1, 1) := qdE27 (by decide +kernel)
theorem dX12_cost_17 : decode cX12_cost 17 = .ok (.iaload, 1) := qdE46 (by decide +kernel)
theorem dX12_cost_18 : decode cX12_cost 18 = .ok (.iadd, 1) := qdE96 (by decide +kernel)
theorem dX12_cost_19 : decode cX12_cost 19 = .ok (.if_icmp .ge 39, 3) := qdE162 (by decide +kernel)
theorem dX12_cost_22 : decode cX12_cost 22 = .ok (.iload_n 2, 1) := qdE28 (by decide +kernel)
theorem dX12_cost_23 : decode cX12_cost 23 = .ok (.aload_n 0, 1) := qdE42 (by decide +kernel)
theorem dX12_cost_24 : decode cX12_cost 24 = .ok (.getfield 31, 3) := qdE180 (by decide +kernel)
theorem dX12_cost_27 : decode cX12_cost 27 = .ok (.iload 4, 2) := qdE21 (by decide +kernel)
theorem dX12_cost_29 : decode cX12_cost 29 = .ok (.iaload, 1) := qdE46 (by decide +kernel)
theorem dX12_cost_30 : decode cX12_cost 30 = .ok (.if_icmp .lt 22, 3) := qdE161 (by decide +kernel)
theorem dX12_cost_33 : decode cX12_cost 33 = .ok (.iload_n 2, 1) := qdE28 (by decide +kernel)
theorem dX12_cost_34 : decode cX12_cost 34 = .ok (.aload_n 0, 1) := qdE42 (by decide +kernel)
theorem dX12_cost_35 : decode cX12_cost 35 = .ok (.getfield 34, 3) := qdE180 (by decide +kernel)
theorem dX12_cost_38 : decode cX12_cost 38 = .ok (.iload 4, 2) := qdE21 (by decide +kernel)
theorem dX12_cost_40 : decode cX12_cost 40 = .ok (.iaload, 1) := qdE46 (by decide +kernel)
theorem dX12_cost_41 : decode cX12_cost 41 = .ok (.if_icmp .gt 11, 3) := qdE163 (by decide +kernel)
theorem dX12_cost_44 : decode cX12_cost 44 = .ok (.aload_n 0, 1) := qdE42 (by decide +kernel)
theorem dX12_cost_45 : decode cX12_cost 45 = .ok (.getfield 28, 3) := qdE180 (by decide +kernel)
theorem dX12_cost_48 : decode cX12_cost 48 = .ok (.iload 4, 2) := qdE21 (by decide +kernel)
theorem dX12_cost_50 : decode cX12_cost 50 = .ok (.iaload, 1) := qdE46 (by decide +kernel)
theorem dX12_cost_51 : decode cX12_cost 51 = .ok (.istore_n 3, 1) := qdE62 (by decide +kernel)
theorem dX12_cost_52 : decode cX12_cost 52 = .ok (.iinc 4 1, 3) := qdE132 (by decide +kernel)
theorem dX12_cost_55 : decode cX12_cost 55 = .ok (.goto (-48), 3) := qdE167 (by decide +kernel)
theorem dX12_cost_58 : decode cX12_cost 58 = .ok (.iload_n 3, 1) := qdE29 (by decide +kernel)
theorem dX12_cost_59 : decode cX12_cost 59 = .ok (.ireturn, 1) := qdE172 (by decide +kernel)
set_option maxRecDepth 20000 in
theorem glX12_costs_0 : GoodIn wsX12_costs ([Cond.fieldLink RX12 165 "PostHouseModel" "thrown" "I", Cond.methodLink RX12 193 yX12_isThing, Cond.instanceMethod yX12_isThing, Cond.selects RX12 yX12_isThing yX12_isThing, Cond.initialized RX12, Cond.code yX12_isThing cX12_isThing 2 (some .boolean), Cond.fieldLink RX12 168 "PostHouseModel" "things" "I", Cond.methodLink RX12 196 yX12_cost, Cond.instanceMethod yX12_cost, Cond.selects RX12 yX12_cost yX12_cost, Cond.code yX12_cost cX12_cost 5 (some .int), Cond.fieldLink RX12 25 "PostHouseModel" "prices" "[I", Cond.fieldLink RX12 31 "PostHouseModel" "priceFrom" "[I", Cond.fieldLink RX12 34 "PostHouseModel" "priceTo" "[I", Cond.fieldLink RX12 28 "PostHouseModel" "priceMoney" "[I"]) := goodIn_sub (fun _ h => List.mem_cons_of_mem _ (List.mem_append_left _ (h))) (by decide +kernel)
set_option maxRecDepth 20000 in
theorem glX12_costs_1 : GoodIn wsX12_costs (wsX120) := goodIn_sub (fun _ h => List.mem_cons_of_mem _ (List.mem_append_right _ (h))) ag_wsX120
set_option maxRecDepth 20000 in
theorem ggX12_costs_X12_isThing : GoodIn wsX12_costs wsX12_isThing := goodIn_c (glX12_costs_0 _ (List.mem_of_getElem? (i := 5) rfl)) (goodIn_app (goodIn_c (glX12_costs_0 _ (List.mem_of_getElem? (i := 6) rfl)) (goodIn_n)) (glX12_costs_1))
set_option maxRecDepth 20000 in
theorem gX12_costs_X12_isThing : GoodIn wsX12_costs (wsV RX12 193 RX12 yX12_isThing wsX12_isThing) := goodIn_app (goodIn_c (glX12_costs_0 _ (List.mem_of_getElem? (i := 1) rfl)) (goodIn_c (glX12_costs_0 _ (List.mem_of_getElem? (i := 2) rfl)) (goodIn_c (glX12_costs_0 _ (List.mem_of_getElem? (i := 3) rfl)) (goodIn_c (glX12_costs_0 _ (List.mem_of_getElem? (i := 4) rfl)) (goodIn_n))))) ggX12_costs_X12_isThing
set_option maxRecDepth 20000 in
theorem ggX12_costs_X12_cost : GoodIn wsX12_costs wsX12_cost := goodIn_c (glX12_costs_0 _ (List.mem_of_getElem? (i := 10) rfl)) (goodIn_app (goodIn_c (glX12_costs_0 _ (List.mem_of_getElem? (i := 11) rfl)) (goodIn_c (glX12_costs_0 _ (List.mem_of_getElem? (i := 12) rfl)) (goodIn_c (glX12_costs_0 _ (List.mem_of_getElem? (i := 13) rfl)) (goodIn_c (glX12_costs_0 _ (List.mem_of_getElem? (i := 14) rfl)) (goodIn_n))))) (glX12_costs_1))
set_option maxRecDepth 20000 in
theorem gX12_costs_X12_cost : GoodIn wsX12_costs (wsV RX12 196 RX12 yX12_cost wsX12_cost) := goodIn_app (goodIn_c (glX12_costs_0 _ (List.mem_of_getElem? (i := 7) rfl)) (goodIn_c (glX12_costs_0 _ (List.mem_of_getElem? (i := 8) rfl)) (goodIn_c (glX12_costs_0 _ (List.mem_of_getElem? (i := 9) rfl)) (goodIn_c (glX12_costs_0 _ (List.mem_of_getElem? (i := 4) rfl)) (goodIn_n))))) ggX12_costs_X12_cost
theorem dX12_costs_0 : decode cX12_costs 0 = .ok (.aload_n 0, 1) := qdE42 (by decide +kernel)
theorem dX12_costs_1 : decode cX12_costs 1 = .ok (.aload_n 0, 1) := qdE42 (by decide +kernel)
theorem dX12_costs_2 : decode cX12_costs 2 = .ok (.iload_n 1, 1) := qdE27 (by decide +kernel)
theorem dX12_costs_3 : decode cX12_costs 3 = .ok (.invokevirtual 193, 3) := qdE182 (by decide +kernel)
theorem dX12_costs_6 : decode cX12_costs 6 = .ok (.ifCond .ne 7, 3) := qdE154 (by decide +kernel)
theorem dX12_costs_9 : decode cX12_costs 9 = .ok (.iconst 1, 1) := qdE4 (by decide +kernel)
theorem dX12_costs_10 : decode cX12_costs 10 = .ok (.goto 4, 3) := qdE167 (by decide +kernel)
theorem dX12_costs_13 : decode cX12_costs 13 = .ok (.iconst 0, 1) := qdE3 (by decide +kernel)
theorem dX12_costs_14 : decode cX12_costs 14 = .ok (.putfield 165, 3) := qdE181 (by decide +kernel)
theorem dX12_costs_17 : decode cX12_costs 17 = .ok (.aload_n 0, 1) := qdE42 (by decide +kernel)
theorem dX12_costs_18 : decode cX12_costs 18 = .ok (.getfield 165, 3) := qdE180 (by decide +kernel)
theorem dX12_costs_21 : decode cX12_costs 21 = .ok (.ifCond .le 7, 3) := qdE158 (by decide +kernel)
theorem dX12_costs_24 : decode cX12_costs 24 = .ok (.iconst 0, 1) := qdE3 (by decide +kernel)
theorem dX12_costs_25 : decode cX12_costs 25 = .ok (.goto 9, 3) := qdE167 (by decide +kernel)
theorem dX12_costs_28 : decode cX12_costs 28 = .ok (.aload_n 0, 1) := qdE42 (by decide +kernel)
theorem dX12_costs_29 : decode cX12_costs 29 = .ok (.iload_n 1, 1) := qdE27 (by decide +kernel)
theorem dX12_costs_30 : decode cX12_costs 30 = .ok (.iload_n 2, 1) := qdE28 (by decide +kernel)
theorem dX12_costs_31 : decode cX12_costs 31 = .ok (.invokevirtual 196, 3) := qdE182 (by decide +kernel)
theorem dX12_costs_34 : decode cX12_costs 34 = .ok (.ireturn, 1) := qdE172 (by decide +kernel)
set_option maxRecDepth 20000 in
theorem glX12_coming_0 : GoodIn wsX12_coming ([Cond.fieldLink RX12 200 "PostHouseModel" "today" "I", Cond.fieldLink RX12 203 "PostHouseModel" "comings" "I", Cond.fieldLink RX12 165 "PostHouseModel" "thrown" "I", Cond.fieldLink RX12 40 "PostHouseModel" "comingThing" "[I", Cond.fieldLink RX12 43 "PostHouseModel" "comingDay" "[I", Cond.fieldLink RX12 46 "PostHouseModel" "comingMany" "[I", Cond.methodLink RX12 193 yX12_isThing, Cond.instanceMethod yX12_isThing, Cond.selects RX12 yX12_isThing yX12_isThing, Cond.initialized RX12, Cond.code yX12_isThing cX12_isThing 2 (some .boolean), Cond.fieldLink RX12 168 "PostHouseModel" "things" "I", Cond.methodLink RX12 185 yX12_isIn, Cond.static yX12_isIn, Cond.code yX12_isIn cX12_isIn 3 (some .boolean)]) := goodIn_sub (fun _ h => List.mem_cons_of_mem _ (List.mem_append_left _ (h))) (by decide +kernel)
set_option maxRecDepth 20000 in
theorem glX12_coming_1 : GoodIn wsX12_coming (wsX120) := goodIn_sub (fun _ h => List.mem_cons_of_mem _ (List.mem_append_right _ (h))) ag_wsX120
set_option maxRecDepth 20000 in
theorem ggX12_coming_X12_isThing : GoodIn wsX12_coming wsX12_isThing := goodIn_c (glX12_coming_0 _ (List.mem_of_getElem? (i := 10) rfl)) (goodIn_app (goodIn_c (glX12_coming_0 _ (List.mem_of_getElem? (i := 11) rfl)) (goodIn_n)) (glX12_coming_1))
set_option maxRecDepth 20000 in
theorem gX12_coming_X12_isThing : GoodIn wsX12_coming (wsV RX12 193 RX12 yX12_isThing wsX12_isThing) := goodIn_app (goodIn_c (glX12_coming_0 _ (List.mem_of_getElem? (i := 6) rfl)) (goodIn_c (glX12_coming_0 _ (List.mem_of_getElem? (i := 7) rfl)) (goodIn_c (glX12_coming_0 _ (List.mem_of_getElem? (i := 8) rfl)) (goodIn_c (glX12_coming_0 _ (List.mem_of_getElem? (i := 9) rfl)) (goodIn_n))))) ggX12_coming_X12_isThing
set_option maxRecDepth 20000 in
theorem ggX12_coming_X12_isIn : GoodIn wsX12_coming wsX12_isIn := goodIn_c (glX12_coming_0 _ (List.mem_of_getElem? (i := 14) rfl)) (goodIn_n)
set_option maxRecDepth 20000 in
theorem gX12_coming_X12_isIn : GoodIn wsX12_coming (va_wsS RX12 185 yX12_isIn wsX12_isIn) := goodIn_app (goodIn_c (glX12_coming_0 _ (List.mem_of_getElem? (i := 12) rfl)) (goodIn_c (glX12_coming_0 _ (List.mem_of_getElem? (i := 13) rfl)) (goodIn_c (glX12_coming_0 _ (List.mem_of_getElem? (i := 9) rfl)) (goodIn_n)))) ggX12_coming_X12_isIn
theorem dX12_coming_0 : decode cX12_coming 0 = .ok (.aload_n 0, 1) := qdE42 (by decide +kernel)
theorem dX12_coming_1 : decode cX12_coming 1 = .ok (.aload_n 0, 1) := qdE42 (by decide +kernel)
theorem dX12_coming_2 : decode cX12_coming 2 = .ok (.iload_n 1, 1) := qdE27 (by decide +kernel)
theorem dX12_coming_3 : decode cX12_coming 3 = .ok (.invokevirtual 193, 3) := qdE182 (by decide +kernel)
theorem dX12_coming_6 : decode cX12_coming 6 = .ok (.ifCond .ne 7, 3) := qdE154 (by decide +kernel)
theorem dX12_coming_9 : decode cX12_coming 9 = .ok (.iconst 1, 1) := qdE4 (by decide +kernel)
theorem dX12_coming_10 : decode cX12_coming 10 = .ok (.goto 47, 3) := qdE167 (by decide +kernel)
theorem dX12_coming_13 : decode cX12_coming 13 = .ok (.iload_n 2, 1) := qdE28 (by decide +kernel)
theorem dX12_coming_14 : decode cX12_coming 14 = .ok (.aload_n 0, 1) := qdE42 (by decide +kernel)
theorem dX12_coming_15 : decode cX12_coming 15 = .ok (.getfield 200, 3) := qdE180 (by decide +kernel)
theorem dX12_coming_18 : decode cX12_coming 18 = .ok (.if_icmp .le 21, 3) := qdE164 (by decide +kernel)
theorem dX12_coming_21 : decode cX12_coming 21 = .ok (.iload_n 2, 1) := qdE28 (by decide +kernel)
theorem dX12_coming_22 : decode cX12_coming 22 = .ok (.sipush 999, 3) := qdE17 (by decide +kernel)
theorem dX12_coming_25 : decode cX12_coming 25 = .ok (.if_icmp .gt 14, 3) := qdE163 (by decide +kernel)
theorem dX12_coming_28 : decode cX12_coming 28 = .ok (.iload_n 3, 1) := qdE29 (by decide +kernel)
theorem dX12_coming_29 : decode cX12_coming 29 = .ok (.iconst 1, 1) := qdE4 (by decide +kernel)
theorem dX12_coming_30 : decode cX12_coming 30 = .ok (.sipush 10000, 3) := qdE17 (by decide +kernel)
theorem dX12_coming_33 : decode cX12_coming 33 = .ok (.invokestatic 185, 3) := qdE184 (by decide +kernel)
theorem dX12_coming_36 : decode cX12_coming 36 = .ok (.ifCond .ne 7, 3) := qdE154 (by decide +kernel)
theorem dX12_coming_39 : decode cX12_coming 39 = .ok (.iconst 2, 1) := qdE5 (by decide +kernel)
theorem dX12_coming_40 : decode cX12_coming 40 = .ok (.goto 17, 3) := qdE167 (by decide +kernel)
theorem dX12_coming_43 : decode cX12_coming 43 = .ok (.aload_n 0, 1) := qdE42 (by decide +kernel)
theorem dX12_coming_44 : decode cX12_coming 44 = .ok (.getfield 203, 3) := qdE180 (by decide +kernel)
theorem dX12_coming_47 : decode cX12_coming 47 = .ok (.bipush 60, 2) := qdE16 (by decide +kernel)
theorem dX12_coming_49 : decode cX12_coming 49 = .ok (.if_icmp .ne 7, 3) := qdE160 (by decide +kernel)
theorem dX12_coming_52 : decode cX12_coming 52 = .ok (.iconst 3, 1) := qdE6 (by decide +kernel)
theorem dX12_coming_53 : decode cX12_coming 53 = .ok (.goto 4, 3) := qdE167 (by decide +kernel)
theorem dX12_coming_56 : decode cX12_coming 56 = .ok (.iconst 0, 1) := qdE3 (by decide +kernel)
theorem dX12_coming_57 : decode cX12_coming 57 = .ok (.putfield 165, 3) := qdE181 (by decide +kernel)
theorem dX12_coming_60 : decode cX12_coming 60 = .ok (.aload_n 0, 1) := qdE42 (by decide +kernel)
theorem dX12_coming_61 : decode cX12_coming 61 = .ok (.getfield 165, 3) := qdE180 (by decide +kernel)
theorem dX12_coming_64 : decode cX12_coming 64 = .ok (.ifCond .le 5, 3) := qdE158 (by decide +kernel)
theorem dX12_coming_67 : decode cX12_coming 67 = .ok (.iconst 0, 1) := qdE3 (by decide +kernel)
theorem dX12_coming_68 : decode cX12_coming 68 = .ok (.ireturn, 1) := qdE172 (by decide +kernel)
theorem dX12_coming_69 : decode cX12_coming 69 = .ok (.aload_n 0, 1) := qdE42 (by decide +kernel)
theorem dX12_coming_70 : decode cX12_coming 70 = .ok (.getfield 40, 3) := qdE180 (by decide +kernel)
theorem dX12_coming_73 : decode cX12_coming 73 = .ok (.aload_n 0, 1) := qdE42 (by decide +kernel)
theorem dX12_coming_74 : decode cX12_coming 74 = .ok (.getfield 203, 3) := qdE180 (by decide +kernel)
theorem dX12_coming_77 : decode cX12_coming 77 = .ok (.iload_n 1, 1) := qdE27 (by decide +kernel)
theorem dX12_coming_78 : decode cX12_coming 78 = .ok (.iastore, 1) := qdE79 (by decide +kernel)
theorem dX12_coming_79 : decode cX12_coming 79 = .ok (.aload_n 0, 1) := qdE42 (by decide +kernel)
theorem dX12_coming_80 : decode cX12_coming 80 = .ok (.getfield 43, 3) := qdE180 (by decide +kernel)
theorem dX12_coming_83 : decode cX12_coming 83 = .ok (.aload_n 0, 1) := qdE42 (by decide +kernel)
theorem dX12_coming_84 : decode cX12_coming 84 = .ok (.getfield 203, 3) := qdE180 (by decide +kernel)
theorem dX12_coming_87 : decode cX12_coming 87 = .ok (.iload_n 2, 1) := qdE28 (by decide +kernel)
theorem dX12_coming_88 : decode cX12_coming 88 = .ok (.iastore, 1) := qdE79 (by decide +kernel)
theorem dX12_coming_89 : decode cX12_coming 89 = .ok (.aload_n 0, 1) := qdE42 (by decide +kernel)
theorem dX12_coming_90 : decode cX12_coming 90 = .ok (.getfield 46, 3) := qdE180 (by decide +kernel)
theorem dX12_coming_93 : decode cX12_coming 93 = .ok (.aload_n 0, 1) := qdE42 (by decide +kernel)
theorem dX12_coming_94 : decode cX12_coming 94 = .ok (.getfield 203, 3) := qdE180 (by decide +kernel)
theorem dX12_coming_97 : decode cX12_coming 97 = .ok (.iload_n 3, 1) := qdE29 (by decide +kernel)
theorem dX12_coming_98 : decode cX12_coming 98 = .ok (.iastore, 1) := qdE79 (by decide +kernel)
theorem dX12_coming_99 : decode cX12_coming 99 = .ok (.aload_n 0, 1) := qdE42 (by decide +kernel)
theorem dX12_coming_100 : decode cX12_coming 100 = .ok (.dup, 1) := qdE89 (by decide +kernel)
theorem dX12_coming_101 : decode cX12_coming 101 = .ok (.getfield 203, 3) := qdE180 (by decide +kernel)
theorem dX12_coming_104 : decode cX12_coming 104 = .ok (.iconst 1, 1) := qdE4 (by decide +kernel)
theorem dX12_coming_105 : decode cX12_coming 105 = .ok (.iadd, 1) := qdE96 (by decide +kernel)
theorem dX12_coming_106 : decode cX12_coming 106 = .ok (.putfield 203, 3) := qdE181 (by decide +kernel)
theorem dX12_coming_109 : decode cX12_coming 109 = .ok (.aload_n 0, 1) := qdE42 (by decide +kernel)
theorem dX12_coming_110 : decode cX12_coming 110 = .ok (.getfield 203, 3) := qdE180 (by decide +kernel)
theorem dX12_coming_113 : decode cX12_coming 113 = .ok (.ireturn, 1) := qdE172 (by decide +kernel)
set_option maxRecDepth 20000 in
theorem glX12_stock_0 : GoodIn wsX12_stock ([Cond.fieldLink RX12 165 "PostHouseModel" "thrown" "I", Cond.fieldLink RX12 22 "PostHouseModel" "stock" "[I", Cond.methodLink RX12 193 yX12_isThing, Cond.instanceMethod yX12_isThing, Cond.selects RX12 yX12_isThing yX12_isThing, Cond.initialized RX12, Cond.code yX12_isThing cX12_isThing 2 (some .boolean), Cond.fieldLink RX12 168 "PostHouseModel" "things" "I"]) := goodIn_sub (fun _ h => List.mem_cons_of_mem _ (List.mem_append_left _ (h))) (by decide +kernel)
set_option maxRecDepth 20000 in
theorem glX12_stock_1 : GoodIn wsX12_stock (wsX120) := goodIn_sub (fun _ h => List.mem_cons_of_mem _ (List.mem_append_right _ (h))) ag_wsX120
set_option maxRecDepth 20000 in
theorem ggX12_stock_X12_isThing : GoodIn wsX12_stock wsX12_isThing := goodIn_c (glX12_stock_0 _ (List.mem_of_getElem? (i := 6) rfl)) (goodIn_app (goodIn_c (glX12_stock_0 _ (List.mem_of_getElem? (i := 7) rfl)) (goodIn_n)) (glX12_stock_1))
set_option maxRecDepth 20000 in
theorem gX12_stock_X12_isThing : GoodIn wsX12_stock (wsV RX12 193 RX12 yX12_isThing wsX12_isThing) := goodIn_app (goodIn_c (glX12_stock_0 _ (List.mem_of_getElem? (i := 2) rfl)) (goodIn_c (glX12_stock_0 _ (List.mem_of_getElem? (i := 3) rfl)) (goodIn_c (glX12_stock_0 _ (List.mem_of_getElem? (i := 4) rfl)) (goodIn_c (glX12_stock_0 _ (List.mem_of_getElem? (i := 5) rfl)) (goodIn_n))))) ggX12_stock_X12_isThing
theorem dX12_stock_0 : decode cX12_stock 0 = .ok (.aload_n 0, 1) := qdE42 (by decide +kernel)
theorem dX12_stock_1 : decode cX12_stock 1 = .ok (.aload_n 0, 1) := qdE42 (by decide +kernel)
theorem dX12_stock_2 : decode cX12_stock 2 = .ok (.iload_n 1, 1) := qdE27 (by decide +kernel)
theorem dX12_stock_3 : decode cX12_stock 3 = .ok (.invokevirtual 193, 3) := qdE182 (by decide +kernel)
theorem dX12_stock_6 : decode cX12_stock 6 = .ok (.ifCond .ne 7, 3) := qdE154 (by decide +kernel)
theorem dX12_stock_9 : decode cX12_stock 9 = .ok (.iconst 1, 1) := qdE4 (by decide +kernel)
theorem dX12_stock_10 : decode cX12_stock 10 = .ok (.goto 4, 3) := qdE167 (by decide +kernel)
theorem dX12_stock_13 : decode cX12_stock 13 = .ok (.iconst 0, 1) := qdE3 (by decide +kernel)
theorem dX12_stock_14 : decode cX12_stock 14 = .ok (.putfield 165, 3) := qdE181 (by decide +kernel)
theorem dX12_stock_17 : decode cX12_stock 17 = .ok (.aload_n 0, 1) := qdE42 (by decide +kernel)
theorem dX12_stock_18 : decode cX12_stock 18 = .ok (.getfield 165, 3) := qdE180 (by decide +kernel)
theorem dX12_stock_21 : decode cX12_stock 21 = .ok (.ifCond .le 7, 3) := qdE158 (by decide +kernel)
theorem dX12_stock_24 : decode cX12_stock 24 = .ok (.iconst 0, 1) := qdE3 (by decide +kernel)
theorem dX12_stock_25 : decode cX12_stock 25 = .ok (.goto 9, 3) := qdE167 (by decide +kernel)
theorem dX12_stock_28 : decode cX12_stock 28 = .ok (.aload_n 0, 1) := qdE42 (by decide +kernel)
theorem dX12_stock_29 : decode cX12_stock 29 = .ok (.getfield 22, 3) := qdE180 (by decide +kernel)
theorem dX12_stock_32 : decode cX12_stock 32 = .ok (.iload_n 1, 1) := qdE27 (by decide +kernel)
theorem dX12_stock_33 : decode cX12_stock 33 = .ok (.iaload, 1) := qdE46 (by decide +kernel)
theorem dX12_stock_34 : decode cX12_stock 34 = .ok (.ireturn, 1) := qdE172 (by decide +kernel)
theorem dX12_wrong_0 : decode cX12_wrong 0 = .ok (.aload_n 0, 1) := qdE42 (by decide +kernel)
theorem dX12_wrong_1 : decode cX12_wrong 1 = .ok (.iload_n 1, 1) := qdE27 (by decide +kernel)
