set_option maxRecDepth 20000 in
theorem ggX12_doubt_X12_isIn : GoodIn wsX12_doubt wsX12_isIn := goodIn_c (glX12_doubt_0 _ (List.mem_of_getElem? (i := 15) rfl)) (goodIn_n)
set_option maxRecDepth 20000 in
theorem gX12_doubt_X12_isIn : GoodIn wsX12_doubt (va_wsS RX12 185 yX12_isIn wsX12_isIn) := goodIn_app (goodIn_of _ (by decide +kernel)) ggX12_doubt_X12_isIn
theorem dX12_doubt_0 : decode cX12_doubt 0 = .ok (.aload_n 0, 1) := by decide +kernel
theorem dX12_doubt_1 : decode cX12_doubt 1 = .ok (.aload_n 0, 1) := by decide +kernel
theorem dX12_doubt_2 : decode cX12_doubt 2 = .ok (.iload_n 1, 1) := by decide +kernel
theorem dX12_doubt_3 : decode cX12_doubt 3 = .ok (.invokevirtual 330, 3) := by decide +kernel
theorem dX12_doubt_6 : decode cX12_doubt 6 = .ok (.ifCond .ne 7, 3) := by decide +kernel
theorem dX12_doubt_9 : decode cX12_doubt 9 = .ok (.iconst 1, 1) := by decide +kernel
theorem dX12_doubt_10 : decode cX12_doubt 10 = .ok (.goto 17, 3) := by decide +kernel
theorem dX12_doubt_13 : decode cX12_doubt 13 = .ok (.iload_n 2, 1) := by decide +kernel
theorem dX12_doubt_14 : decode cX12_doubt 14 = .ok (.iconst 0, 1) := by decide +kernel
theorem dX12_doubt_15 : decode cX12_doubt 15 = .ok (.iconst 5, 1) := by decide +kernel
theorem dX12_doubt_16 : decode cX12_doubt 16 = .ok (.invokestatic 185, 3) := by decide +kernel
theorem dX12_doubt_19 : decode cX12_doubt 19 = .ok (.ifCond .ne 7, 3) := by decide +kernel
theorem dX12_doubt_22 : decode cX12_doubt 22 = .ok (.iconst 2, 1) := by decide +kernel
theorem dX12_doubt_23 : decode cX12_doubt 23 = .ok (.goto 4, 3) := by decide +kernel
theorem dX12_doubt_26 : decode cX12_doubt 26 = .ok (.iconst 0, 1) := by decide +kernel
theorem dX12_doubt_27 : decode cX12_doubt 27 = .ok (.putfield 165, 3) := by decide +kernel
theorem dX12_doubt_30 : decode cX12_doubt 30 = .ok (.aload_n 0, 1) := by decide +kernel
theorem dX12_doubt_31 : decode cX12_doubt 31 = .ok (.getfield 165, 3) := by decide +kernel
theorem dX12_doubt_34 : decode cX12_doubt 34 = .ok (.ifCond .le 5, 3) := by decide +kernel
theorem dX12_doubt_37 : decode cX12_doubt 37 = .ok (.iconst 0, 1) := by decide +kernel
theorem dX12_doubt_38 : decode cX12_doubt 38 = .ok (.ireturn, 1) := by decide +kernel
theorem dX12_doubt_39 : decode cX12_doubt 39 = .ok (.iload_n 2, 1) := by decide +kernel
theorem dX12_doubt_40 : decode cX12_doubt 40 = .ok (.tableswitch 79 0 4 #[36, 51, 58, 65, 72], 36) := by decide +kernel
theorem dX12_doubt_76 : decode cX12_doubt 76 = .ok (.aload_n 0, 1) := by decide +kernel
theorem dX12_doubt_77 : decode cX12_doubt 77 = .ok (.getfield 71, 3) := by decide +kernel
theorem dX12_doubt_80 : decode cX12_doubt 80 = .ok (.iload_n 1, 1) := by decide +kernel
theorem dX12_doubt_81 : decode cX12_doubt 81 = .ok (.baload, 1) := by decide +kernel
theorem dX12_doubt_82 : decode cX12_doubt 82 = .ok (.ifCond .eq 7, 3) := by decide +kernel
theorem dX12_doubt_85 : decode cX12_doubt 85 = .ok (.iconst 1, 1) := by decide +kernel
theorem dX12_doubt_86 : decode cX12_doubt 86 = .ok (.goto 4, 3) := by decide +kernel
theorem dX12_doubt_89 : decode cX12_doubt 89 = .ok (.iconst 0, 1) := by decide +kernel
theorem dX12_doubt_90 : decode cX12_doubt 90 = .ok (.ireturn, 1) := by decide +kernel
theorem dX12_doubt_91 : decode cX12_doubt 91 = .ok (.aload_n 0, 1) := by decide +kernel
theorem dX12_doubt_92 : decode cX12_doubt 92 = .ok (.getfield 75, 3) := by decide +kernel
theorem dX12_doubt_95 : decode cX12_doubt 95 = .ok (.iload_n 1, 1) := by decide +kernel
theorem dX12_doubt_96 : decode cX12_doubt 96 = .ok (.iaload, 1) := by decide +kernel
theorem dX12_doubt_97 : decode cX12_doubt 97 = .ok (.ireturn, 1) := by decide +kernel
theorem dX12_doubt_98 : decode cX12_doubt 98 = .ok (.aload_n 0, 1) := by decide +kernel
theorem dX12_doubt_99 : decode cX12_doubt 99 = .ok (.getfield 78, 3) := by decide +kernel
theorem dX12_doubt_102 : decode cX12_doubt 102 = .ok (.iload_n 1, 1) := by decide +kernel
theorem dX12_doubt_103 : decode cX12_doubt 103 = .ok (.iaload, 1) := by decide +kernel
theorem dX12_doubt_104 : decode cX12_doubt 104 = .ok (.ireturn, 1) := by decide +kernel
theorem dX12_doubt_105 : decode cX12_doubt 105 = .ok (.aload_n 0, 1) := by decide +kernel
theorem dX12_doubt_106 : decode cX12_doubt 106 = .ok (.getfield 81, 3) := by decide +kernel
theorem dX12_doubt_109 : decode cX12_doubt 109 = .ok (.iload_n 1, 1) := by decide +kernel
theorem dX12_doubt_110 : decode cX12_doubt 110 = .ok (.iaload, 1) := by decide +kernel
theorem dX12_doubt_111 : decode cX12_doubt 111 = .ok (.ireturn, 1) := by decide +kernel
theorem dX12_doubt_112 : decode cX12_doubt 112 = .ok (.aload_n 0, 1) := by decide +kernel
theorem dX12_doubt_113 : decode cX12_doubt 113 = .ok (.getfield 84, 3) := by decide +kernel
theorem dX12_doubt_116 : decode cX12_doubt 116 = .ok (.iload_n 1, 1) := by decide +kernel
theorem dX12_doubt_117 : decode cX12_doubt 117 = .ok (.iaload, 1) := by decide +kernel
theorem dX12_doubt_118 : decode cX12_doubt 118 = .ok (.ireturn, 1) := by decide +kernel
theorem dX12_doubt_119 : decode cX12_doubt 119 = .ok (.aload_n 0, 1) := by decide +kernel
theorem dX12_doubt_120 : decode cX12_doubt 120 = .ok (.getfield 87, 3) := by decide +kernel
theorem dX12_doubt_123 : decode cX12_doubt 123 = .ok (.iload_n 1, 1) := by decide +kernel
theorem dX12_doubt_124 : decode cX12_doubt 124 = .ok (.iaload, 1) := by decide +kernel
theorem dX12_doubt_125 : decode cX12_doubt 125 = .ok (.ireturn, 1) := by decide +kernel
set_option maxRecDepth 20000 in
theorem glX12_settle_0 : GoodIn wsX12_settle (wsX12_settle_r1) := goodIn_sub (fun _ h => List.mem_cons_of_mem _ (List.mem_append_left _ (List.mem_append_left _ (h)))) (by decide +kernel)
set_option maxRecDepth 20000 in
theorem glX12_settle_3 : GoodIn wsX12_settle (wsX120) := goodIn_sub (fun _ h => List.mem_cons_of_mem _ (List.mem_append_right _ (h))) ag_wsX120
set_option maxRecDepth 20000 in
theorem ggX12_settle_X12_isDoubt : GoodIn wsX12_settle wsX12_isDoubt := goodIn_c (glX12_settle_0 _ (List.mem_of_getElem? (i := 16) rfl)) (goodIn_app (goodIn_c (glX12_settle_0 _ (List.mem_of_getElem? (i := 17) rfl)) (goodIn_n)) (glX12_settle_3))
set_option maxRecDepth 20000 in
theorem gX12_settle_X12_isDoubt : GoodIn wsX12_settle (wsV RX12 330 RX12 yX12_isDoubt wsX12_isDoubt) := goodIn_app (goodIn_of _ (by decide +kernel)) ggX12_settle_X12_isDoubt
set_option maxRecDepth 20000 in
theorem glX12_settle_1 : GoodIn wsX12_settle (wsX12_settle_r2) := goodIn_sub (fun _ h => List.mem_cons_of_mem _ (List.mem_append_left _ (List.mem_append_right _ (List.mem_append_left _ (h))))) (by decide +kernel)
set_option maxRecDepth 20000 in
theorem ggX12_settle_X12_priceOf : GoodIn wsX12_settle wsX12_priceOf := goodIn_c (glX12_settle_0 _ (List.mem_of_getElem? (i := 21) rfl)) (goodIn_app (goodIn_c (glX12_settle_0 _ (List.mem_of_getElem? (i := 22) rfl)) (goodIn_c (glX12_settle_0 _ (List.mem_of_getElem? (i := 23) rfl)) (goodIn_c (glX12_settle_1 _ (List.mem_of_getElem? (i := 0) rfl)) (goodIn_c (glX12_settle_1 _ (List.mem_of_getElem? (i := 1) rfl)) (goodIn_c (glX12_settle_0 _ (List.mem_of_getElem? (i := 15) rfl)) (goodIn_c (glX12_settle_1 _ (List.mem_of_getElem? (i := 2) rfl)) (goodIn_c (glX12_settle_1 _ (List.mem_of_getElem? (i := 3) rfl)) (goodIn_c (glX12_settle_1 _ (List.mem_of_getElem? (i := 4) rfl)) (goodIn_c (glX12_settle_1 _ (List.mem_of_getElem? (i := 5) rfl)) (goodIn_c (glX12_settle_1 _ (List.mem_of_getElem? (i := 6) rfl)) (goodIn_c (glX12_settle_1 _ (List.mem_of_getElem? (i := 7) rfl)) (goodIn_c (glX12_settle_1 _ (List.mem_of_getElem? (i := 8) rfl)) (goodIn_c (glX12_settle_1 _ (List.mem_of_getElem? (i := 9) rfl)) (goodIn_c (glX12_settle_1 _ (List.mem_of_getElem? (i := 10) rfl)) (goodIn_c (glX12_settle_1 _ (List.mem_of_getElem? (i := 11) rfl)) (goodIn_c (glX12_settle_1 _ (List.mem_of_getElem? (i := 12) rfl)) (goodIn_n))))))))))))))))) (glX12_settle_3))
set_option maxRecDepth 20000 in
theorem gX12_settle_X12_priceOf : GoodIn wsX12_settle (wsV RX12 280 RX12 yX12_priceOf wsX12_priceOf) := goodIn_app (goodIn_of _ (by decide +kernel)) ggX12_settle_X12_priceOf
set_option maxRecDepth 20000 in
theorem ggX12_settle_X12_known : GoodIn wsX12_settle wsX12_known := goodIn_c (glX12_settle_1 _ (List.mem_of_getElem? (i := 16) rfl)) (goodIn_app (goodIn_c (glX12_settle_0 _ (List.mem_of_getElem? (i := 3) rfl)) (goodIn_c (glX12_settle_0 _ (List.mem_of_getElem? (i := 6) rfl)) (goodIn_c (glX12_settle_0 _ (List.mem_of_getElem? (i := 18) rfl)) (goodIn_c (glX12_settle_0 _ (List.mem_of_getElem? (i := 19) rfl)) (goodIn_c (glX12_settle_0 _ (List.mem_of_getElem? (i := 20) rfl)) (goodIn_c (glX12_settle_0 _ (List.mem_of_getElem? (i := 15) rfl)) (goodIn_c (glX12_settle_0 _ (List.mem_of_getElem? (i := 21) rfl)) (goodIn_c (glX12_settle_0 _ (List.mem_of_getElem? (i := 22) rfl)) (goodIn_c (glX12_settle_0 _ (List.mem_of_getElem? (i := 23) rfl)) (goodIn_c (glX12_settle_1 _ (List.mem_of_getElem? (i := 0) rfl)) (goodIn_c (glX12_settle_1 _ (List.mem_of_getElem? (i := 1) rfl)) (goodIn_c (glX12_settle_1 _ (List.mem_of_getElem? (i := 2) rfl)) (goodIn_c (glX12_settle_1 _ (List.mem_of_getElem? (i := 3) rfl)) (goodIn_c (glX12_settle_1 _ (List.mem_of_getElem? (i := 4) rfl)) (goodIn_c (glX12_settle_1 _ (List.mem_of_getElem? (i := 5) rfl)) (goodIn_c (glX12_settle_1 _ (List.mem_of_getElem? (i := 6) rfl)) (goodIn_c (glX12_settle_1 _ (List.mem_of_getElem? (i := 7) rfl)) (goodIn_c (glX12_settle_1 _ (List.mem_of_getElem? (i := 8) rfl)) (goodIn_c (glX12_settle_1 _ (List.mem_of_getElem? (i := 9) rfl)) (goodIn_c (glX12_settle_1 _ (List.mem_of_getElem? (i := 10) rfl)) (goodIn_c (glX12_settle_1 _ (List.mem_of_getElem? (i := 11) rfl)) (goodIn_c (glX12_settle_1 _ (List.mem_of_getElem? (i := 12) rfl)) (goodIn_n))))))))))))))))))))))) (glX12_settle_3))
set_option maxRecDepth 20000 in
theorem gX12_settle_X12_known : GoodIn wsX12_settle (wsV RX12 305 RX12 yX12_known wsX12_known) := goodIn_app (goodIn_of _ (by decide +kernel)) ggX12_settle_X12_known
set_option maxRecDepth 20000 in
theorem ggX12_settle_X12_due : GoodIn wsX12_settle wsX12_due := goodIn_c (glX12_settle_1 _ (List.mem_of_getElem? (i := 20) rfl)) (goodIn_app (goodIn_c (glX12_settle_1 _ (List.mem_of_getElem? (i := 21) rfl)) (goodIn_n)) (glX12_settle_3))
set_option maxRecDepth 20000 in
theorem gX12_settle_X12_due : GoodIn wsX12_settle (wsV RX12 308 RX12 yX12_due wsX12_due) := goodIn_app (goodIn_of _ (by decide +kernel)) ggX12_settle_X12_due
set_option maxRecDepth 20000 in
theorem glX12_settle_2 : GoodIn wsX12_settle (wsX12_settle_r3) := goodIn_sub (fun _ h => List.mem_cons_of_mem _ (List.mem_append_left _ (List.mem_append_right _ (List.mem_append_right _ (h))))) (by decide +kernel)
set_option maxRecDepth 20000 in
theorem ggX12_settle_X12_makeOrder : GoodIn wsX12_settle wsX12_makeOrder := goodIn_c (glX12_settle_2 _ (List.mem_of_getElem? (i := 1) rfl)) (goodIn_app (goodIn_app (goodIn_c (glX12_settle_0 _ (List.mem_of_getElem? (i := 10) rfl)) (goodIn_c (glX12_settle_2 _ (List.mem_of_getElem? (i := 2) rfl)) (goodIn_c (glX12_settle_0 _ (List.mem_of_getElem? (i := 3) rfl)) (goodIn_c (glX12_settle_0 _ (List.mem_of_getElem? (i := 6) rfl)) (goodIn_c (glX12_settle_2 _ (List.mem_of_getElem? (i := 3) rfl)) (goodIn_c (glX12_settle_2 _ (List.mem_of_getElem? (i := 4) rfl)) (goodIn_c (glX12_settle_0 _ (List.mem_of_getElem? (i := 8) rfl)) (goodIn_c (glX12_settle_2 _ (List.mem_of_getElem? (i := 5) rfl)) (goodIn_c (glX12_settle_2 _ (List.mem_of_getElem? (i := 6) rfl)) (goodIn_c (glX12_settle_2 _ (List.mem_of_getElem? (i := 7) rfl)) (goodIn_c (glX12_settle_2 _ (List.mem_of_getElem? (i := 8) rfl)) (goodIn_c (glX12_settle_2 _ (List.mem_of_getElem? (i := 9) rfl)) (goodIn_c (glX12_settle_2 _ (List.mem_of_getElem? (i := 10) rfl)) (goodIn_c (glX12_settle_2 _ (List.mem_of_getElem? (i := 11) rfl)) (goodIn_c (glX12_settle_2 _ (List.mem_of_getElem? (i := 12) rfl)) (goodIn_c (glX12_settle_2 _ (List.mem_of_getElem? (i := 13) rfl)) (goodIn_c (glX12_settle_0 _ (List.mem_of_getElem? (i := 22) rfl)) (goodIn_c (glX12_settle_2 _ (List.mem_of_getElem? (i := 14) rfl)) (goodIn_c (glX12_settle_0 _ (List.mem_of_getElem? (i := 5) rfl)) (goodIn_c (glX12_settle_2 _ (List.mem_of_getElem? (i := 15) rfl)) (goodIn_c (glX12_settle_2 _ (List.mem_of_getElem? (i := 16) rfl)) (goodIn_c (glX12_settle_0 _ (List.mem_of_getElem? (i := 18) rfl)) (goodIn_c (glX12_settle_0 _ (List.mem_of_getElem? (i := 19) rfl)) (goodIn_c (glX12_settle_0 _ (List.mem_of_getElem? (i := 20) rfl)) (goodIn_n))))))))))))))))))))))))) (goodIn_c (glX12_settle_0 _ (List.mem_of_getElem? (i := 15) rfl)) (goodIn_c (glX12_settle_0 _ (List.mem_of_getElem? (i := 21) rfl)) (goodIn_c (glX12_settle_0 _ (List.mem_of_getElem? (i := 23) rfl)) (goodIn_c (glX12_settle_1 _ (List.mem_of_getElem? (i := 0) rfl)) (goodIn_c (glX12_settle_1 _ (List.mem_of_getElem? (i := 1) rfl)) (goodIn_c (glX12_settle_1 _ (List.mem_of_getElem? (i := 2) rfl)) (goodIn_c (glX12_settle_1 _ (List.mem_of_getElem? (i := 3) rfl)) (goodIn_c (glX12_settle_1 _ (List.mem_of_getElem? (i := 4) rfl)) (goodIn_c (glX12_settle_1 _ (List.mem_of_getElem? (i := 5) rfl)) (goodIn_c (glX12_settle_1 _ (List.mem_of_getElem? (i := 6) rfl)) (goodIn_c (glX12_settle_1 _ (List.mem_of_getElem? (i := 7) rfl)) (goodIn_c (glX12_settle_1 _ (List.mem_of_getElem? (i := 8) rfl)) (goodIn_c (glX12_settle_1 _ (List.mem_of_getElem? (i := 9) rfl)) (goodIn_c (glX12_settle_1 _ (List.mem_of_getElem? (i := 10) rfl)) (goodIn_c (glX12_settle_1 _ (List.mem_of_getElem? (i := 11) rfl)) (goodIn_c (glX12_settle_1 _ (List.mem_of_getElem? (i := 12) rfl)) (goodIn_c (glX12_settle_1 _ (List.mem_of_getElem? (i := 17) rfl)) (goodIn_c (glX12_settle_1 _ (List.mem_of_getElem? (i := 18) rfl)) (goodIn_c (glX12_settle_1 _ (List.mem_of_getElem? (i := 19) rfl)) (goodIn_c (glX12_settle_1 _ (List.mem_of_getElem? (i := 20) rfl)) (goodIn_c (glX12_settle_1 _ (List.mem_of_getElem? (i := 21) rfl)) (goodIn_n))))))))))))))))))))))) (glX12_settle_3))
set_option maxRecDepth 20000 in
theorem gX12_settle_X12_makeOrder : GoodIn wsX12_settle (wsV RX12 317 RX12 yX12_makeOrder wsX12_makeOrder) := goodIn_app (goodIn_of _ (by decide +kernel)) ggX12_settle_X12_makeOrder
theorem dX12_settle_0 : decode cX12_settle 0 = .ok (.aload_n 0, 1) := by decide +kernel
theorem dX12_settle_1 : decode cX12_settle 1 = .ok (.aload_n 0, 1) := by decide +kernel
theorem dX12_settle_2 : decode cX12_settle 2 = .ok (.iload_n 1, 1) := by decide +kernel
theorem dX12_settle_3 : decode cX12_settle 3 = .ok (.invokevirtual 330, 3) := by decide +kernel
theorem dX12_settle_6 : decode cX12_settle 6 = .ok (.ifCond .ne 7, 3) := by decide +kernel
theorem dX12_settle_9 : decode cX12_settle 9 = .ok (.iconst 1, 1) := by decide +kernel
theorem dX12_settle_10 : decode cX12_settle 10 = .ok (.goto 17, 3) := by decide +kernel
theorem dX12_settle_13 : decode cX12_settle 13 = .ok (.aload_n 0, 1) := by decide +kernel
theorem dX12_settle_14 : decode cX12_settle 14 = .ok (.getfield 71, 3) := by decide +kernel
theorem dX12_settle_17 : decode cX12_settle 17 = .ok (.iload_n 1, 1) := by decide +kernel
theorem dX12_settle_18 : decode cX12_settle 18 = .ok (.baload, 1) := by decide +kernel
theorem dX12_settle_19 : decode cX12_settle 19 = .ok (.ifCond .ne 7, 3) := by decide +kernel
theorem dX12_settle_22 : decode cX12_settle 22 = .ok (.iconst 2, 1) := by decide +kernel
theorem dX12_settle_23 : decode cX12_settle 23 = .ok (.goto 4, 3) := by decide +kernel
theorem dX12_settle_26 : decode cX12_settle 26 = .ok (.iconst 0, 1) := by decide +kernel
theorem dX12_settle_27 : decode cX12_settle 27 = .ok (.putfield 165, 3) := by decide +kernel
theorem dX12_settle_30 : decode cX12_settle 30 = .ok (.aload_n 0, 1) := by decide +kernel
theorem dX12_settle_31 : decode cX12_settle 31 = .ok (.getfield 165, 3) := by decide +kernel
theorem dX12_settle_34 : decode cX12_settle 34 = .ok (.ifCond .le 5, 3) := by decide +kernel
theorem dX12_settle_37 : decode cX12_settle 37 = .ok (.iconst 0, 1) := by decide +kernel
theorem dX12_settle_38 : decode cX12_settle 38 = .ok (.ireturn, 1) := by decide +kernel
theorem dX12_settle_39 : decode cX12_settle 39 = .ok (.iconst (-1), 1) := by decide +kernel
theorem dX12_settle_40 : decode cX12_settle 40 = .ok (.istore_n 3, 1) := by decide +kernel
theorem dX12_settle_41 : decode cX12_settle 41 = .ok (.iload_n 2, 1) := by decide +kernel
theorem dX12_settle_42 : decode cX12_settle 42 = .ok (.ifCond .eq 174, 3) := by decide +kernel
theorem dX12_settle_45 : decode cX12_settle 45 = .ok (.aload_n 0, 1) := by decide +kernel
theorem dX12_settle_46 : decode cX12_settle 46 = .ok (.aload_n 0, 1) := by decide +kernel
theorem dX12_settle_47 : decode cX12_settle 47 = .ok (.getfield 78, 3) := by decide +kernel
theorem dX12_settle_50 : decode cX12_settle 50 = .ok (.iload_n 1, 1) := by decide +kernel
theorem dX12_settle_51 : decode cX12_settle 51 = .ok (.iaload, 1) := by decide +kernel
theorem dX12_settle_52 : decode cX12_settle 52 = .ok (.putfield 262, 3) := by decide +kernel
theorem dX12_settle_55 : decode cX12_settle 55 = .ok (.aload_n 0, 1) := by decide +kernel
theorem dX12_settle_56 : decode cX12_settle 56 = .ok (.aload_n 0, 1) := by decide +kernel
theorem dX12_settle_57 : decode cX12_settle 57 = .ok (.getfield 87, 3) := by decide +kernel
theorem dX12_settle_60 : decode cX12_settle 60 = .ok (.iload_n 1, 1) := by decide +kernel
theorem dX12_settle_61 : decode cX12_settle 61 = .ok (.iaload, 1) := by decide +kernel
theorem dX12_settle_62 : decode cX12_settle 62 = .ok (.putfield 275, 3) := by decide +kernel
theorem dX12_settle_65 : decode cX12_settle 65 = .ok (.iconst 0, 1) := by decide +kernel
theorem dX12_settle_66 : decode cX12_settle 66 = .ok (.istore 4, 2) := by decide +kernel
theorem dX12_settle_68 : decode cX12_settle 68 = .ok (.iconst 0, 1) := by decide +kernel
theorem dX12_settle_69 : decode cX12_settle 69 = .ok (.istore 5, 2) := by decide +kernel
theorem dX12_settle_71 : decode cX12_settle 71 = .ok (.iload 5, 2) := by decide +kernel
theorem dX12_settle_73 : decode cX12_settle 73 = .ok (.aload_n 0, 1) := by decide +kernel
theorem dX12_settle_74 : decode cX12_settle 74 = .ok (.getfield 262, 3) := by decide +kernel
theorem dX12_settle_77 : decode cX12_settle 77 = .ok (.if_icmp .ge 85, 3) := by decide +kernel
theorem dX12_settle_80 : decode cX12_settle 80 = .ok (.aload_n 0, 1) := by decide +kernel
theorem dX12_settle_81 : decode cX12_settle 81 = .ok (.getfield 65, 3) := by decide +kernel
theorem dX12_settle_84 : decode cX12_settle 84 = .ok (.iload 5, 2) := by decide +kernel
theorem dX12_settle_86 : decode cX12_settle 86 = .ok (.aload_n 0, 1) := by decide +kernel
theorem dX12_settle_87 : decode cX12_settle 87 = .ok (.getfield 90, 3) := by decide +kernel
theorem dX12_settle_90 : decode cX12_settle 90 = .ok (.bipush 8, 2) := by decide +kernel
theorem dX12_settle_92 : decode cX12_settle 92 = .ok (.iload_n 1, 1) := by decide +kernel
theorem dX12_settle_93 : decode cX12_settle 93 = .ok (.imul, 1) := by decide +kernel
theorem dX12_settle_94 : decode cX12_settle 94 = .ok (.iload 5, 2) := by decide +kernel
theorem dX12_settle_96 : decode cX12_settle 96 = .ok (.iadd, 1) := by decide +kernel
theorem dX12_settle_97 : decode cX12_settle 97 = .ok (.iaload, 1) := by decide +kernel
theorem dX12_settle_98 : decode cX12_settle 98 = .ok (.iastore, 1) := by decide +kernel
theorem dX12_settle_99 : decode cX12_settle 99 = .ok (.aload_n 0, 1) := by decide +kernel
theorem dX12_settle_100 : decode cX12_settle 100 = .ok (.getfield 68, 3) := by decide +kernel
theorem dX12_settle_103 : decode cX12_settle 103 = .ok (.iload 5, 2) := by decide +kernel
theorem dX12_settle_105 : decode cX12_settle 105 = .ok (.aload_n 0, 1) := by decide +kernel
theorem dX12_settle_106 : decode cX12_settle 106 = .ok (.getfield 93, 3) := by decide +kernel
theorem dX12_settle_109 : decode cX12_settle 109 = .ok (.bipush 8, 2) := by decide +kernel
theorem dX12_settle_111 : decode cX12_settle 111 = .ok (.iload_n 1, 1) := by decide +kernel
theorem dX12_settle_112 : decode cX12_settle 112 = .ok (.imul, 1) := by decide +kernel
theorem dX12_settle_113 : decode cX12_settle 113 = .ok (.iload 5, 2) := by decide +kernel
theorem dX12_settle_115 : decode cX12_settle 115 = .ok (.iadd, 1) := by decide +kernel
theorem dX12_settle_116 : decode cX12_settle 116 = .ok (.iaload, 1) := by decide +kernel
theorem dX12_settle_117 : decode cX12_settle 117 = .ok (.iastore, 1) := by decide +kernel
theorem dX12_settle_118 : decode cX12_settle 118 = .ok (.aload_n 0, 1) := by decide +kernel
theorem dX12_settle_119 : decode cX12_settle 119 = .ok (.aload_n 0, 1) := by decide +kernel
theorem dX12_settle_120 : decode cX12_settle 120 = .ok (.getfield 65, 3) := by decide +kernel
theorem dX12_settle_123 : decode cX12_settle 123 = .ok (.iload 5, 2) := by decide +kernel
theorem dX12_settle_125 : decode cX12_settle 125 = .ok (.iaload, 1) := by decide +kernel
theorem dX12_settle_126 : decode cX12_settle 126 = .ok (.invokevirtual 280, 3) := by decide +kernel
theorem dX12_settle_129 : decode cX12_settle 129 = .ok (.istore 6, 2) := by decide +kernel
theorem dX12_settle_131 : decode cX12_settle 131 = .ok (.iload 4, 2) := by decide +kernel
theorem dX12_settle_133 : decode cX12_settle 133 = .ok (.iload 6, 2) := by decide +kernel
theorem dX12_settle_135 : decode cX12_settle 135 = .ok (.iconst (-1), 1) := by decide +kernel
theorem dX12_settle_136 : decode cX12_settle 136 = .ok (.if_icmp .ne 7, 3) := by decide +kernel
theorem dX12_settle_139 : decode cX12_settle 139 = .ok (.iconst 0, 1) := by decide +kernel
theorem dX12_settle_140 : decode cX12_settle 140 = .ok (.goto 13, 3) := by decide +kernel
theorem dX12_settle_143 : decode cX12_settle 143 = .ok (.iload 6, 2) := by decide +kernel
theorem dX12_settle_145 : decode cX12_settle 145 = .ok (.aload_n 0, 1) := by decide +kernel
theorem dX12_settle_146 : decode cX12_settle 146 = .ok (.getfield 68, 3) := by decide +kernel
theorem dX12_settle_149 : decode cX12_settle 149 = .ok (.iload 5, 2) := by decide +kernel
theorem dX12_settle_151 : decode cX12_settle 151 = .ok (.iaload, 1) := by decide +kernel
theorem dX12_settle_152 : decode cX12_settle 152 = .ok (.imul, 1) := by decide +kernel
theorem dX12_settle_153 : decode cX12_settle 153 = .ok (.iadd, 1) := by decide +kernel
theorem dX12_settle_154 : decode cX12_settle 154 = .ok (.istore 4, 2) := by decide +kernel
theorem dX12_settle_156 : decode cX12_settle 156 = .ok (.iinc 5 1, 3) := by decide +kernel
theorem dX12_settle_159 : decode cX12_settle 159 = .ok (.goto (-88), 3) := by decide +kernel
theorem dX12_settle_162 : decode cX12_settle 162 = .ok (.aload_n 0, 1) := by decide +kernel
theorem dX12_settle_163 : decode cX12_settle 163 = .ok (.invokevirtual 305, 3) := by decide +kernel
theorem dX12_settle_166 : decode cX12_settle 166 = .ok (.ifCond .eq 16, 3) := by decide +kernel
theorem dX12_settle_169 : decode cX12_settle 169 = .ok (.aload_n 0, 1) := by decide +kernel
theorem dX12_settle_170 : decode cX12_settle 170 = .ok (.getfield 275, 3) := by decide +kernel
theorem dX12_settle_173 : decode cX12_settle 173 = .ok (.aload_n 0, 1) := by decide +kernel
theorem dX12_settle_174 : decode cX12_settle 174 = .ok (.iload 4, 2) := by decide +kernel
theorem dX12_settle_176 : decode cX12_settle 176 = .ok (.invokevirtual 308, 3) := by decide +kernel
theorem dX12_settle_179 : decode cX12_settle 179 = .ok (.if_icmp .ge 5, 3) := by decide +kernel
theorem dX12_settle_182 : decode cX12_settle 182 = .ok (.iconst (-1), 1) := by decide +kernel
theorem dX12_settle_183 : decode cX12_settle 183 = .ok (.ireturn, 1) := by decide +kernel
theorem dX12_settle_184 : decode cX12_settle 184 = .ok (.aload_n 0, 1) := by decide +kernel
theorem dX12_settle_185 : decode cX12_settle 185 = .ok (.aload_n 0, 1) := by decide +kernel
theorem dX12_settle_186 : decode cX12_settle 186 = .ok (.getfield 171, 3) := by decide +kernel
theorem dX12_settle_189 : decode cX12_settle 189 = .ok (.bipush 60, 2) := by decide +kernel
theorem dX12_settle_191 : decode cX12_settle 191 = .ok (.if_icmp .ne 7, 3) := by decide +kernel
theorem dX12_settle_194 : decode cX12_settle 194 = .ok (.iconst 3, 1) := by decide +kernel
theorem dX12_settle_195 : decode cX12_settle 195 = .ok (.goto 4, 3) := by decide +kernel
theorem dX12_settle_198 : decode cX12_settle 198 = .ok (.iconst 0, 1) := by decide +kernel
theorem dX12_settle_199 : decode cX12_settle 199 = .ok (.putfield 165, 3) := by decide +kernel
theorem dX12_settle_202 : decode cX12_settle 202 = .ok (.aload_n 0, 1) := by decide +kernel
theorem dX12_settle_203 : decode cX12_settle 203 = .ok (.getfield 165, 3) := by decide +kernel
theorem dX12_settle_206 : decode cX12_settle 206 = .ok (.ifCond .le 5, 3) := by decide +kernel
theorem dX12_settle_209 : decode cX12_settle 209 = .ok (.iconst 0, 1) := by decide +kernel
theorem dX12_settle_210 : decode cX12_settle 210 = .ok (.ireturn, 1) := by decide +kernel
theorem dX12_settle_211 : decode cX12_settle 211 = .ok (.aload_n 0, 1) := by decide +kernel
theorem dX12_settle_212 : decode cX12_settle 212 = .ok (.invokevirtual 317, 3) := by decide +kernel
theorem dX12_settle_215 : decode cX12_settle 215 = .ok (.istore_n 3, 1) := by decide +kernel
theorem dX12_settle_216 : decode cX12_settle 216 = .ok (.aload_n 0, 1) := by decide +kernel
theorem dX12_settle_217 : decode cX12_settle 217 = .ok (.getfield 71, 3) := by decide +kernel
theorem dX12_settle_220 : decode cX12_settle 220 = .ok (.iload_n 1, 1) := by decide +kernel
theorem dX12_settle_221 : decode cX12_settle 221 = .ok (.iconst 0, 1) := by decide +kernel
theorem dX12_settle_222 : decode cX12_settle 222 = .ok (.bastore, 1) := by decide +kernel
theorem dX12_settle_223 : decode cX12_settle 223 = .ok (.aload_n 0, 1) := by decide +kernel
theorem dX12_settle_224 : decode cX12_settle 224 = .ok (.dup, 1) := by decide +kernel
theorem dX12_settle_225 : decode cX12_settle 225 = .ok (.getfield 311, 3) := by decide +kernel
theorem dX12_settle_228 : decode cX12_settle 228 = .ok (.iconst 1, 1) := by decide +kernel
theorem dX12_settle_229 : decode cX12_settle 229 = .ok (.isub, 1) := by decide +kernel
theorem dX12_settle_230 : decode cX12_settle 230 = .ok (.putfield 311, 3) := by decide +kernel
theorem dX12_settle_233 : decode cX12_settle 233 = .ok (.iload_n 3, 1) := by decide +kernel
theorem dX12_settle_234 : decode cX12_settle 234 = .ok (.ireturn, 1) := by decide +kernel
set_option maxRecDepth 20000 in
theorem glX12_days_0 : GoodIn wsX12_days (wsX12_days_r1) := goodIn_sub (fun _ h => List.mem_cons_of_mem _ (List.mem_append_left _ (List.mem_append_left _ (h)))) (by decide +kernel)
set_option maxRecDepth 20000 in
theorem ggX12_days_X12_isIn : GoodIn wsX12_days wsX12_isIn := goodIn_c (glX12_days_0 _ (List.mem_of_getElem? (i := 5) rfl)) (goodIn_n)
set_option maxRecDepth 20000 in
theorem gX12_days_X12_isIn : GoodIn wsX12_days (va_wsS RX12 185 yX12_isIn wsX12_isIn) := goodIn_app (goodIn_of _ (by decide +kernel)) ggX12_days_X12_isIn
set_option maxRecDepth 20000 in
theorem glX12_days_1 : GoodIn wsX12_days (wsX12_days_r2) := goodIn_sub (fun _ h => List.mem_cons_of_mem _ (List.mem_append_left _ (List.mem_append_right _ (List.mem_append_left _ (h))))) (by decide +kernel)
set_option maxRecDepth 20000 in
theorem glX12_days_2 : GoodIn wsX12_days (wsX12_days_r3) := goodIn_sub (fun _ h => List.mem_cons_of_mem _ (List.mem_append_left _ (List.mem_append_right _ (List.mem_append_right _ (h))))) (by decide +kernel)
set_option maxRecDepth 20000 in
theorem glX12_days_3 : GoodIn wsX12_days (wsX120) := goodIn_sub (fun _ h => List.mem_cons_of_mem _ (List.mem_append_right _ (h))) ag_wsX120
set_option maxRecDepth 20000 in
theorem ggX12_days_X12_day : GoodIn wsX12_days wsX12_day := goodIn_c (glX12_days_0 _ (List.mem_of_getElem? (i := 9) rfl)) (goodIn_app (goodIn_app (goodIn_c (glX12_days_0 _ (List.mem_of_getElem? (i := 1) rfl)) (goodIn_c (glX12_days_0 _ (List.mem_of_getElem? (i := 10) rfl)) (goodIn_c (glX12_days_0 _ (List.mem_of_getElem? (i := 11) rfl)) (goodIn_c (glX12_days_0 _ (List.mem_of_getElem? (i := 12) rfl)) (goodIn_c (glX12_days_0 _ (List.mem_of_getElem? (i := 13) rfl)) (goodIn_c (glX12_days_0 _ (List.mem_of_getElem? (i := 14) rfl)) (goodIn_c (glX12_days_0 _ (List.mem_of_getElem? (i := 15) rfl)) (goodIn_c (glX12_days_0 _ (List.mem_of_getElem? (i := 16) rfl)) (goodIn_c (glX12_days_0 _ (List.mem_of_getElem? (i := 17) rfl)) (goodIn_c (glX12_days_0 _ (List.mem_of_getElem? (i := 18) rfl)) (goodIn_c (glX12_days_0 _ (List.mem_of_getElem? (i := 4) rfl)) (goodIn_c (glX12_days_0 _ (List.mem_of_getElem? (i := 19) rfl)) (goodIn_c (glX12_days_0 _ (List.mem_of_getElem? (i := 20) rfl)) (goodIn_c (glX12_days_0 _ (List.mem_of_getElem? (i := 21) rfl)) (goodIn_c (glX12_days_0 _ (List.mem_of_getElem? (i := 22) rfl)) (goodIn_c (glX12_days_0 _ (List.mem_of_getElem? (i := 23) rfl)) (goodIn_c (glX12_days_1 _ (List.mem_of_getElem? (i := 0) rfl)) (goodIn_c (glX12_days_1 _ (List.mem_of_getElem? (i := 1) rfl)) (goodIn_c (glX12_days_1 _ (List.mem_of_getElem? (i := 2) rfl)) (goodIn_c (glX12_days_1 _ (List.mem_of_getElem? (i := 3) rfl)) (goodIn_c (glX12_days_1 _ (List.mem_of_getElem? (i := 4) rfl)) (goodIn_c (glX12_days_1 _ (List.mem_of_getElem? (i := 5) rfl)) (goodIn_c (glX12_days_1 _ (List.mem_of_getElem? (i := 6) rfl)) (goodIn_c (glX12_days_1 _ (List.mem_of_getElem? (i := 7) rfl)) (goodIn_n))))))))))))))))))))))))) (goodIn_c (glX12_days_1 _ (List.mem_of_getElem? (i := 8) rfl)) (goodIn_c (glX12_days_1 _ (List.mem_of_getElem? (i := 9) rfl)) (goodIn_c (glX12_days_1 _ (List.mem_of_getElem? (i := 10) rfl)) (goodIn_c (glX12_days_1 _ (List.mem_of_getElem? (i := 11) rfl)) (goodIn_c (glX12_days_1 _ (List.mem_of_getElem? (i := 12) rfl)) (goodIn_c (glX12_days_1 _ (List.mem_of_getElem? (i := 13) rfl)) (goodIn_c (glX12_days_1 _ (List.mem_of_getElem? (i := 14) rfl)) (goodIn_c (glX12_days_1 _ (List.mem_of_getElem? (i := 15) rfl)) (goodIn_c (glX12_days_1 _ (List.mem_of_getElem? (i := 16) rfl)) (goodIn_c (glX12_days_1 _ (List.mem_of_getElem? (i := 17) rfl)) (goodIn_c (glX12_days_1 _ (List.mem_of_getElem? (i := 18) rfl)) (goodIn_c (glX12_days_1 _ (List.mem_of_getElem? (i := 19) rfl)) (goodIn_c (glX12_days_1 _ (List.mem_of_getElem? (i := 20) rfl)) (goodIn_c (glX12_days_1 _ (List.mem_of_getElem? (i := 21) rfl)) (goodIn_c (glX12_days_1 _ (List.mem_of_getElem? (i := 22) rfl)) (goodIn_c (glX12_days_1 _ (List.mem_of_getElem? (i := 23) rfl)) (goodIn_c (glX12_days_2 _ (List.mem_of_getElem? (i := 0) rfl)) (goodIn_c (glX12_days_2 _ (List.mem_of_getElem? (i := 1) rfl)) (goodIn_n)))))))))))))))))))) (glX12_days_3))
set_option maxRecDepth 20000 in
theorem gX12_days_X12_day : GoodIn wsX12_days (wsV RX12 333 RX12 yX12_day wsX12_day) := goodIn_app (goodIn_of _ (by decide +kernel)) ggX12_days_X12_day
theorem dX12_days_0 : decode cX12_days 0 = .ok (.aload_n 0, 1) := by decide +kernel
theorem dX12_days_1 : decode cX12_days 1 = .ok (.iload_n 1, 1) := by decide +kernel
theorem dX12_days_2 : decode cX12_days 2 = .ok (.iconst 0, 1) := by decide +kernel
theorem dX12_days_3 : decode cX12_days 3 = .ok (.bipush 100, 2) := by decide +kernel
theorem dX12_days_5 : decode cX12_days 5 = .ok (.invokestatic 185, 3) := by decide +kernel
theorem dX12_days_8 : decode cX12_days 8 = .ok (.ifCond .ne 7, 3) := by decide +kernel
theorem dX12_days_11 : decode cX12_days 11 = .ok (.iconst 1, 1) := by decide +kernel
theorem dX12_days_12 : decode cX12_days 12 = .ok (.goto 4, 3) := by decide +kernel
theorem dX12_days_15 : decode cX12_days 15 = .ok (.iconst 0, 1) := by decide +kernel
theorem dX12_days_16 : decode cX12_days 16 = .ok (.putfield 165, 3) := by decide +kernel
theorem dX12_days_19 : decode cX12_days 19 = .ok (.aload_n 0, 1) := by decide +kernel
theorem dX12_days_20 : decode cX12_days 20 = .ok (.getfield 165, 3) := by decide +kernel
theorem dX12_days_23 : decode cX12_days 23 = .ok (.ifCond .le 5, 3) := by decide +kernel
theorem dX12_days_26 : decode cX12_days 26 = .ok (.iconst 0, 1) := by decide +kernel
theorem dX12_days_27 : decode cX12_days 27 = .ok (.ireturn, 1) := by decide +kernel
theorem dX12_days_28 : decode cX12_days 28 = .ok (.iconst 0, 1) := by decide +kernel
theorem dX12_days_29 : decode cX12_days 29 = .ok (.istore_n 2, 1) := by decide +kernel
theorem dX12_days_30 : decode cX12_days 30 = .ok (.iload_n 2, 1) := by decide +kernel
theorem dX12_days_31 : decode cX12_days 31 = .ok (.iload_n 1, 1) := by decide +kernel
theorem dX12_days_32 : decode cX12_days 32 = .ok (.if_icmp .ge 23, 3) := by decide +kernel
theorem dX12_days_35 : decode cX12_days 35 = .ok (.aload_n 0, 1) := by decide +kernel
theorem dX12_days_36 : decode cX12_days 36 = .ok (.getfield 200, 3) := by decide +kernel
theorem dX12_days_39 : decode cX12_days 39 = .ok (.sipush 999, 3) := by decide +kernel
theorem dX12_days_42 : decode cX12_days 42 = .ok (.if_icmp .ge 13, 3) := by decide +kernel
theorem dX12_days_45 : decode cX12_days 45 = .ok (.aload_n 0, 1) := by decide +kernel
theorem dX12_days_46 : decode cX12_days 46 = .ok (.invokevirtual 333, 3) := by decide +kernel
theorem dX12_days_49 : decode cX12_days 49 = .ok (.iinc 2 1, 3) := by decide +kernel
theorem dX12_days_52 : decode cX12_days 52 = .ok (.goto (-22), 3) := by decide +kernel
theorem dX12_days_55 : decode cX12_days 55 = .ok (.aload_n 0, 1) := by decide +kernel
theorem dX12_days_56 : decode cX12_days 56 = .ok (.getfield 200, 3) := by decide +kernel
theorem dX12_days_59 : decode cX12_days 59 = .ok (.ireturn, 1) := by decide +kernel
set_option maxRecDepth 20000 in
theorem glX12_day_0 : GoodIn wsX12_day (wsX12_day_r1) := goodIn_sub (fun _ h => List.mem_cons_of_mem _ (List.mem_append_left _ (List.mem_append_left _ (h)))) (by decide +kernel)
set_option maxRecDepth 20000 in
theorem glX12_day_1 : GoodIn wsX12_day (wsX12_day_r2) := goodIn_sub (fun _ h => List.mem_cons_of_mem _ (List.mem_append_left _ (List.mem_append_right _ (h)))) (by decide +kernel)
set_option maxRecDepth 20000 in
theorem glX12_day_2 : GoodIn wsX12_day (wsX120) := goodIn_sub (fun _ h => List.mem_cons_of_mem _ (List.mem_append_right _ (h))) ag_wsX120
set_option maxRecDepth 20000 in
theorem ggX12_day_X12_serve : GoodIn wsX12_day wsX12_serve := goodIn_c (glX12_day_0 _ (List.mem_of_getElem? (i := 11) rfl)) (goodIn_app (goodIn_app (goodIn_c (glX12_day_0 _ (List.mem_of_getElem? (i := 12) rfl)) (goodIn_c (glX12_day_0 _ (List.mem_of_getElem? (i := 13) rfl)) (goodIn_c (glX12_day_0 _ (List.mem_of_getElem? (i := 14) rfl)) (goodIn_c (glX12_day_0 _ (List.mem_of_getElem? (i := 15) rfl)) (goodIn_c (glX12_day_0 _ (List.mem_of_getElem? (i := 3) rfl)) (goodIn_c (glX12_day_0 _ (List.mem_of_getElem? (i := 16) rfl)) (goodIn_c (glX12_day_0 _ (List.mem_of_getElem? (i := 17) rfl)) (goodIn_c (glX12_day_0 _ (List.mem_of_getElem? (i := 0) rfl)) (goodIn_c (glX12_day_0 _ (List.mem_of_getElem? (i := 18) rfl)) (goodIn_c (glX12_day_0 _ (List.mem_of_getElem? (i := 19) rfl)) (goodIn_c (glX12_day_0 _ (List.mem_of_getElem? (i := 20) rfl)) (goodIn_c (glX12_day_0 _ (List.mem_of_getElem? (i := 21) rfl)) (goodIn_c (glX12_day_0 _ (List.mem_of_getElem? (i := 22) rfl)) (goodIn_c (glX12_day_0 _ (List.mem_of_getElem? (i := 23) rfl)) (goodIn_c (glX12_day_1 _ (List.mem_of_getElem? (i := 0) rfl)) (goodIn_c (glX12_day_1 _ (List.mem_of_getElem? (i := 1) rfl)) (goodIn_c (glX12_day_1 _ (List.mem_of_getElem? (i := 2) rfl)) (goodIn_c (glX12_day_1 _ (List.mem_of_getElem? (i := 3) rfl)) (goodIn_c (glX12_day_1 _ (List.mem_of_getElem? (i := 4) rfl)) (goodIn_c (glX12_day_1 _ (List.mem_of_getElem? (i := 5) rfl)) (goodIn_c (glX12_day_1 _ (List.mem_of_getElem? (i := 6) rfl)) (goodIn_c (glX12_day_1 _ (List.mem_of_getElem? (i := 7) rfl)) (goodIn_c (glX12_day_1 _ (List.mem_of_getElem? (i := 8) rfl)) (goodIn_c (glX12_day_1 _ (List.mem_of_getElem? (i := 9) rfl)) (goodIn_n))))))))))))))))))))))))) (goodIn_c (glX12_day_0 _ (List.mem_of_getElem? (i := 10) rfl)) (goodIn_c (glX12_day_1 _ (List.mem_of_getElem? (i := 10) rfl)) (goodIn_c (glX12_day_1 _ (List.mem_of_getElem? (i := 11) rfl)) (goodIn_c (glX12_day_1 _ (List.mem_of_getElem? (i := 12) rfl)) (goodIn_c (glX12_day_1 _ (List.mem_of_getElem? (i := 13) rfl)) (goodIn_c (glX12_day_1 _ (List.mem_of_getElem? (i := 14) rfl)) (goodIn_c (glX12_day_1 _ (List.mem_of_getElem? (i := 15) rfl)) (goodIn_c (glX12_day_1 _ (List.mem_of_getElem? (i := 16) rfl)) (goodIn_c (glX12_day_1 _ (List.mem_of_getElem? (i := 17) rfl)) (goodIn_n))))))))))) (glX12_day_2))
set_option maxRecDepth 20000 in
theorem gX12_day_X12_serve : GoodIn wsX12_day (wsV RX12 336 RX12 yX12_serve wsX12_serve) := goodIn_app (goodIn_of _ (by decide +kernel)) ggX12_day_X12_serve
theorem dX12_day_0 : decode cX12_day 0 = .ok (.aload_n 0, 1) := by decide +kernel
theorem dX12_day_1 : decode cX12_day 1 = .ok (.dup, 1) := by decide +kernel
theorem dX12_day_2 : decode cX12_day 2 = .ok (.getfield 200, 3) := by decide +kernel
theorem dX12_day_5 : decode cX12_day 5 = .ok (.iconst 1, 1) := by decide +kernel
theorem dX12_day_6 : decode cX12_day 6 = .ok (.iadd, 1) := by decide +kernel
theorem dX12_day_7 : decode cX12_day 7 = .ok (.putfield 200, 3) := by decide +kernel
theorem dX12_day_10 : decode cX12_day 10 = .ok (.iconst 0, 1) := by decide +kernel
theorem dX12_day_11 : decode cX12_day 11 = .ok (.istore_n 1, 1) := by decide +kernel
theorem dX12_day_12 : decode cX12_day 12 = .ok (.iconst 0, 1) := by decide +kernel
theorem dX12_day_13 : decode cX12_day 13 = .ok (.istore_n 2, 1) := by decide +kernel
theorem dX12_day_14 : decode cX12_day 14 = .ok (.iload_n 2, 1) := by decide +kernel
theorem dX12_day_15 : decode cX12_day 15 = .ok (.aload_n 0, 1) := by decide +kernel
theorem dX12_day_16 : decode cX12_day 16 = .ok (.getfield 203, 3) := by decide +kernel
theorem dX12_day_19 : decode cX12_day 19 = .ok (.if_icmp .ge 84, 3) := by decide +kernel
theorem dX12_day_22 : decode cX12_day 22 = .ok (.aload_n 0, 1) := by decide +kernel
theorem dX12_day_23 : decode cX12_day 23 = .ok (.getfield 43, 3) := by decide +kernel
theorem dX12_day_26 : decode cX12_day 26 = .ok (.iload_n 2, 1) := by decide +kernel
theorem dX12_day_27 : decode cX12_day 27 = .ok (.iaload, 1) := by decide +kernel
theorem dX12_day_28 : decode cX12_day 28 = .ok (.aload_n 0, 1) := by decide +kernel
theorem dX12_day_29 : decode cX12_day 29 = .ok (.getfield 200, 3) := by decide +kernel
theorem dX12_day_32 : decode cX12_day 32 = .ok (.if_icmp .ne 26, 3) := by decide +kernel
theorem dX12_day_35 : decode cX12_day 35 = .ok (.aload_n 0, 1) := by decide +kernel
theorem dX12_day_36 : decode cX12_day 36 = .ok (.getfield 22, 3) := by decide +kernel
theorem dX12_day_39 : decode cX12_day 39 = .ok (.aload_n 0, 1) := by decide +kernel
theorem dX12_day_40 : decode cX12_day 40 = .ok (.getfield 40, 3) := by decide +kernel
theorem dX12_day_43 : decode cX12_day 43 = .ok (.iload_n 2, 1) := by decide +kernel
theorem dX12_day_44 : decode cX12_day 44 = .ok (.iaload, 1) := by decide +kernel
theorem dX12_day_45 : decode cX12_day 45 = .ok (.dup2, 1) := by decide +kernel
theorem dX12_day_46 : decode cX12_day 46 = .ok (.iaload, 1) := by decide +kernel
theorem dX12_day_47 : decode cX12_day 47 = .ok (.aload_n 0, 1) := by decide +kernel
theorem dX12_day_48 : decode cX12_day 48 = .ok (.getfield 46, 3) := by decide +kernel
theorem dX12_day_51 : decode cX12_day 51 = .ok (.iload_n 2, 1) := by decide +kernel
theorem dX12_day_52 : decode cX12_day 52 = .ok (.iaload, 1) := by decide +kernel
theorem dX12_day_53 : decode cX12_day 53 = .ok (.iadd, 1) := by decide +kernel
theorem dX12_day_54 : decode cX12_day 54 = .ok (.iastore, 1) := by decide +kernel
theorem dX12_day_55 : decode cX12_day 55 = .ok (.goto 42, 3) := by decide +kernel
theorem dX12_day_58 : decode cX12_day 58 = .ok (.aload_n 0, 1) := by decide +kernel
theorem dX12_day_59 : decode cX12_day 59 = .ok (.getfield 40, 3) := by decide +kernel
theorem dX12_day_62 : decode cX12_day 62 = .ok (.iload_n 1, 1) := by decide +kernel
theorem dX12_day_63 : decode cX12_day 63 = .ok (.aload_n 0, 1) := by decide +kernel
theorem dX12_day_64 : decode cX12_day 64 = .ok (.getfield 40, 3) := by decide +kernel
theorem dX12_day_67 : decode cX12_day 67 = .ok (.iload_n 2, 1) := by decide +kernel
theorem dX12_day_68 : decode cX12_day 68 = .ok (.iaload, 1) := by decide +kernel
theorem dX12_day_69 : decode cX12_day 69 = .ok (.iastore, 1) := by decide +kernel
theorem dX12_day_70 : decode cX12_day 70 = .ok (.aload_n 0, 1) := by decide +kernel
theorem dX12_day_71 : decode cX12_day 71 = .ok (.getfield 43, 3) := by decide +kernel
theorem dX12_day_74 : decode cX12_day 74 = .ok (.iload_n 1, 1) := by decide +kernel
theorem dX12_day_75 : decode cX12_day 75 = .ok (.aload_n 0, 1) := by decide +kernel
theorem dX12_day_76 : decode cX12_day 76 = .ok (.getfield 43, 3) := by decide +kernel
theorem dX12_day_79 : decode cX12_day 79 = .ok (.iload_n 2, 1) := by decide +kernel
theorem dX12_day_80 : decode cX12_day 80 = .ok (.iaload, 1) := by decide +kernel
theorem dX12_day_81 : decode cX12_day 81 = .ok (.iastore, 1) := by decide +kernel
theorem dX12_day_82 : decode cX12_day 82 = .ok (.aload_n 0, 1) := by decide +kernel
theorem dX12_day_83 : decode cX12_day 83 = .ok (.getfield 46, 3) := by decide +kernel
theorem dX12_day_86 : decode cX12_day 86 = .ok (.iload_n 1, 1) := by decide +kernel
theorem dX12_day_87 : decode cX12_day 87 = .ok (.aload_n 0, 1) := by decide +kernel
theorem dX12_day_88 : decode cX12_day 88 = .ok (.getfield 46, 3) := by decide +kernel
theorem dX12_day_91 : decode cX12_day 91 = .ok (.iload_n 2, 1) := by decide +kernel
theorem dX12_day_92 : decode cX12_day 92 = .ok (.iaload, 1) := by decide +kernel
theorem dX12_day_93 : decode cX12_day 93 = .ok (.iastore, 1) := by decide +kernel
theorem dX12_day_94 : decode cX12_day 94 = .ok (.iinc 1 1, 3) := by decide +kernel
theorem dX12_day_97 : decode cX12_day 97 = .ok (.iinc 2 1, 3) := by decide +kernel
theorem dX12_day_100 : decode cX12_day 100 = .ok (.goto (-86), 3) := by decide +kernel
theorem dX12_day_103 : decode cX12_day 103 = .ok (.aload_n 0, 1) := by decide +kernel
theorem dX12_day_104 : decode cX12_day 104 = .ok (.iload_n 1, 1) := by decide +kernel
theorem dX12_day_105 : decode cX12_day 105 = .ok (.putfield 203, 3) := by decide +kernel
theorem dX12_day_108 : decode cX12_day 108 = .ok (.iconst 0, 1) := by decide +kernel
theorem dX12_day_109 : decode cX12_day 109 = .ok (.istore_n 2, 1) := by decide +kernel
theorem dX12_day_110 : decode cX12_day 110 = .ok (.iload_n 2, 1) := by decide +kernel
theorem dX12_day_111 : decode cX12_day 111 = .ok (.aload_n 0, 1) := by decide +kernel
theorem dX12_day_112 : decode cX12_day 112 = .ok (.getfield 171, 3) := by decide +kernel
theorem dX12_day_115 : decode cX12_day 115 = .ok (.if_icmp .ge 14, 3) := by decide +kernel
theorem dX12_day_118 : decode cX12_day 118 = .ok (.aload_n 0, 1) := by decide +kernel
theorem dX12_day_119 : decode cX12_day 119 = .ok (.iload_n 2, 1) := by decide +kernel
theorem dX12_day_120 : decode cX12_day 120 = .ok (.invokevirtual 336, 3) := by decide +kernel
theorem dX12_day_123 : decode cX12_day 123 = .ok (.iinc 2 1, 3) := by decide +kernel
theorem dX12_day_126 : decode cX12_day 126 = .ok (.goto (-16), 3) := by decide +kernel
theorem dX12_day_129 : decode cX12_day 129 = .ok (.return_, 1) := by decide +kernel
theorem dX12_left_0 : decode cX12_left 0 = .ok (.aload_n 0, 1) := by decide +kernel
theorem dX12_left_1 : decode cX12_left 1 = .ok (.getfield 114, 3) := by decide +kernel
theorem dX12_left_4 : decode cX12_left 4 = .ok (.iload_n 1, 1) := by decide +kernel
theorem dX12_left_5 : decode cX12_left 5 = .ok (.iaload, 1) := by decide +kernel
theorem dX12_left_6 : decode cX12_left 6 = .ok (.aload_n 0, 1) := by decide +kernel
theorem dX12_left_7 : decode cX12_left 7 = .ok (.getfield 120, 3) := by decide +kernel
theorem dX12_left_10 : decode cX12_left 10 = .ok (.iload_n 1, 1) := by decide +kernel
theorem dX12_left_11 : decode cX12_left 11 = .ok (.iaload, 1) := by decide +kernel
theorem dX12_left_12 : decode cX12_left 12 = .ok (.isub, 1) := by decide +kernel
theorem dX12_left_13 : decode cX12_left 13 = .ok (.aload_n 0, 1) := by decide +kernel
theorem dX12_left_14 : decode cX12_left 14 = .ok (.getfield 123, 3) := by decide +kernel
theorem dX12_left_17 : decode cX12_left 17 = .ok (.iload_n 1, 1) := by decide +kernel
theorem dX12_left_18 : decode cX12_left 18 = .ok (.iaload, 1) := by decide +kernel
theorem dX12_left_19 : decode cX12_left 19 = .ok (.isub, 1) := by decide +kernel
theorem dX12_left_20 : decode cX12_left 20 = .ok (.aload_n 0, 1) := by decide +kernel
theorem dX12_left_21 : decode cX12_left 21 = .ok (.getfield 126, 3) := by decide +kernel
theorem dX12_left_24 : decode cX12_left 24 = .ok (.iload_n 1, 1) := by decide +kernel
theorem dX12_left_25 : decode cX12_left 25 = .ok (.iaload, 1) := by decide +kernel
theorem dX12_left_26 : decode cX12_left 26 = .ok (.isub, 1) := by decide +kernel
theorem dX12_left_27 : decode cX12_left 27 = .ok (.ireturn, 1) := by decide +kernel
set_option maxRecDepth 20000 in
theorem glX12_serve_1 : GoodIn wsX12_serve (wsX12_serve_r2) := goodIn_sub (fun _ h => List.mem_cons_of_mem _ (List.mem_append_left _ (List.mem_append_right _ (h)))) (by decide +kernel)
set_option maxRecDepth 20000 in
theorem glX12_serve_0 : GoodIn wsX12_serve (wsX12_serve_r1) := goodIn_sub (fun _ h => List.mem_cons_of_mem _ (List.mem_append_left _ (List.mem_append_left _ (h)))) (by decide +kernel)
set_option maxRecDepth 20000 in
theorem glX12_serve_2 : GoodIn wsX12_serve (wsX120) := goodIn_sub (fun _ h => List.mem_cons_of_mem _ (List.mem_append_right _ (h))) ag_wsX120
set_option maxRecDepth 20000 in
theorem ggX12_serve_X12_left : GoodIn wsX12_serve wsX12_left := goodIn_c (glX12_serve_1 _ (List.mem_of_getElem? (i := 1) rfl)) (goodIn_app (goodIn_c (glX12_serve_1 _ (List.mem_of_getElem? (i := 2) rfl)) (goodIn_c (glX12_serve_0 _ (List.mem_of_getElem? (i := 5) rfl)) (goodIn_c (glX12_serve_0 _ (List.mem_of_getElem? (i := 11) rfl)) (goodIn_c (glX12_serve_0 _ (List.mem_of_getElem? (i := 13) rfl)) (goodIn_n))))) (glX12_serve_2))
set_option maxRecDepth 20000 in
theorem gX12_serve_X12_left : GoodIn wsX12_serve (wsV RX12 339 RX12 yX12_left wsX12_left) := goodIn_app (goodIn_of _ (by decide +kernel)) ggX12_serve_X12_left
set_option maxRecDepth 20000 in
theorem ggX12_serve_X12_parcels : GoodIn wsX12_serve wsX12_parcels := goodIn_c (glX12_serve_1 _ (List.mem_of_getElem? (i := 6) rfl)) (goodIn_app (goodIn_c (glX12_serve_0 _ (List.mem_of_getElem? (i := 0) rfl)) (goodIn_c (glX12_serve_1 _ (List.mem_of_getElem? (i := 7) rfl)) (goodIn_c (glX12_serve_0 _ (List.mem_of_getElem? (i := 1) rfl)) (goodIn_c (glX12_serve_1 _ (List.mem_of_getElem? (i := 8) rfl)) (goodIn_n))))) (glX12_serve_2))
set_option maxRecDepth 20000 in
theorem gX12_serve_X12_parcels : GoodIn wsX12_serve (wsV RX12 345 RX12 yX12_parcels wsX12_parcels) := goodIn_app (goodIn_of _ (by decide +kernel)) ggX12_serve_X12_parcels
theorem dX12_serve_0 : decode cX12_serve 0 = .ok (.iconst 0, 1) := by decide +kernel
theorem dX12_serve_1 : decode cX12_serve 1 = .ok (.istore_n 2, 1) := by decide +kernel
theorem dX12_serve_2 : decode cX12_serve 2 = .ok (.iload_n 2, 1) := by decide +kernel
theorem dX12_serve_3 : decode cX12_serve 3 = .ok (.aload_n 0, 1) := by decide +kernel
theorem dX12_serve_4 : decode cX12_serve 4 = .ok (.getfield 168, 3) := by decide +kernel
theorem dX12_serve_7 : decode cX12_serve 7 = .ok (.if_icmp .ge 16, 3) := by decide +kernel
theorem dX12_serve_10 : decode cX12_serve 10 = .ok (.aload_n 0, 1) := by decide +kernel
theorem dX12_serve_11 : decode cX12_serve 11 = .ok (.getfield 153, 3) := by decide +kernel
theorem dX12_serve_14 : decode cX12_serve 14 = .ok (.iload_n 2, 1) := by decide +kernel
theorem dX12_serve_15 : decode cX12_serve 15 = .ok (.iconst 0, 1) := by decide +kernel
theorem dX12_serve_16 : decode cX12_serve 16 = .ok (.iastore, 1) := by decide +kernel
theorem dX12_serve_17 : decode cX12_serve 17 = .ok (.iinc 2 1, 3) := by decide +kernel
theorem dX12_serve_20 : decode cX12_serve 20 = .ok (.goto (-18), 3) := by decide +kernel
theorem dX12_serve_23 : decode cX12_serve 23 = .ok (.iconst 0, 1) := by decide +kernel
theorem dX12_serve_24 : decode cX12_serve 24 = .ok (.istore_n 2, 1) := by decide +kernel
theorem dX12_serve_25 : decode cX12_serve 25 = .ok (.bipush 8, 2) := by decide +kernel
theorem dX12_serve_27 : decode cX12_serve 27 = .ok (.iload_n 1, 1) := by decide +kernel
theorem dX12_serve_28 : decode cX12_serve 28 = .ok (.imul, 1) := by decide +kernel
theorem dX12_serve_29 : decode cX12_serve 29 = .ok (.istore_n 3, 1) := by decide +kernel
theorem dX12_serve_30 : decode cX12_serve 30 = .ok (.iload_n 3, 1) := by decide +kernel
theorem dX12_serve_31 : decode cX12_serve 31 = .ok (.bipush 8, 2) := by decide +kernel
theorem dX12_serve_33 : decode cX12_serve 33 = .ok (.iload_n 1, 1) := by decide +kernel
theorem dX12_serve_34 : decode cX12_serve 34 = .ok (.imul, 1) := by decide +kernel
theorem dX12_serve_35 : decode cX12_serve 35 = .ok (.aload_n 0, 1) := by decide +kernel
theorem dX12_serve_36 : decode cX12_serve 36 = .ok (.getfield 108, 3) := by decide +kernel
theorem dX12_serve_39 : decode cX12_serve 39 = .ok (.iload_n 1, 1) := by decide +kernel
theorem dX12_serve_40 : decode cX12_serve 40 = .ok (.iaload, 1) := by decide +kernel
theorem dX12_serve_41 : decode cX12_serve 41 = .ok (.iadd, 1) := by decide +kernel
theorem dX12_serve_42 : decode cX12_serve 42 = .ok (.if_icmp .ge 256, 3) := by decide +kernel
theorem dX12_serve_45 : decode cX12_serve 45 = .ok (.aload_n 0, 1) := by decide +kernel
theorem dX12_serve_46 : decode cX12_serve 46 = .ok (.getfield 111, 3) := by decide +kernel
theorem dX12_serve_49 : decode cX12_serve 49 = .ok (.iload_n 3, 1) := by decide +kernel
theorem dX12_serve_50 : decode cX12_serve 50 = .ok (.iaload, 1) := by decide +kernel
theorem dX12_serve_51 : decode cX12_serve 51 = .ok (.istore 4, 2) := by decide +kernel
theorem dX12_serve_53 : decode cX12_serve 53 = .ok (.aload_n 0, 1) := by decide +kernel
theorem dX12_serve_54 : decode cX12_serve 54 = .ok (.iload_n 3, 1) := by decide +kernel
theorem dX12_serve_55 : decode cX12_serve 55 = .ok (.invokevirtual 339, 3) := by decide +kernel
theorem dX12_serve_58 : decode cX12_serve 58 = .ok (.aload_n 0, 1) := by decide +kernel
theorem dX12_serve_59 : decode cX12_serve 59 = .ok (.getfield 22, 3) := by decide +kernel
theorem dX12_serve_62 : decode cX12_serve 62 = .ok (.iload 4, 2) := by decide +kernel
theorem dX12_serve_64 : decode cX12_serve 64 = .ok (.iaload, 1) := by decide +kernel
theorem dX12_serve_65 : decode cX12_serve 65 = .ok (.if_icmp .ge 11, 3) := by decide +kernel
theorem dX12_serve_68 : decode cX12_serve 68 = .ok (.aload_n 0, 1) := by decide +kernel
theorem dX12_serve_69 : decode cX12_serve 69 = .ok (.iload_n 3, 1) := by decide +kernel
theorem dX12_serve_70 : decode cX12_serve 70 = .ok (.invokevirtual 339, 3) := by decide +kernel
theorem dX12_serve_73 : decode cX12_serve 73 = .ok (.goto 10, 3) := by decide +kernel
theorem dX12_serve_76 : decode cX12_serve 76 = .ok (.aload_n 0, 1) := by decide +kernel
theorem dX12_serve_77 : decode cX12_serve 77 = .ok (.getfield 22, 3) := by decide +kernel
theorem dX12_serve_80 : decode cX12_serve 80 = .ok (.iload 4, 2) := by decide +kernel
theorem dX12_serve_82 : decode cX12_serve 82 = .ok (.iaload, 1) := by decide +kernel
theorem dX12_serve_83 : decode cX12_serve 83 = .ok (.istore 5, 2) := by decide +kernel
theorem dX12_serve_85 : decode cX12_serve 85 = .ok (.aload_n 0, 1) := by decide +kernel
theorem dX12_serve_86 : decode cX12_serve 86 = .ok (.getfield 22, 3) := by decide +kernel
theorem dX12_serve_89 : decode cX12_serve 89 = .ok (.iload 4, 2) := by decide +kernel
theorem dX12_serve_91 : decode cX12_serve 91 = .ok (.dup2, 1) := by decide +kernel
theorem dX12_serve_92 : decode cX12_serve 92 = .ok (.iaload, 1) := by decide +kernel
theorem dX12_serve_93 : decode cX12_serve 93 = .ok (.iload 5, 2) := by decide +kernel
theorem dX12_serve_95 : decode cX12_serve 95 = .ok (.isub, 1) := by decide +kernel
theorem dX12_serve_96 : decode cX12_serve 96 = .ok (.iastore, 1) := by decide +kernel
theorem dX12_serve_97 : decode cX12_serve 97 = .ok (.aload_n 0, 1) := by decide +kernel
theorem dX12_serve_98 : decode cX12_serve 98 = .ok (.getfield 120, 3) := by decide +kernel
theorem dX12_serve_101 : decode cX12_serve 101 = .ok (.iload_n 3, 1) := by decide +kernel
theorem dX12_serve_102 : decode cX12_serve 102 = .ok (.dup2, 1) := by decide +kernel
theorem dX12_serve_103 : decode cX12_serve 103 = .ok (.iaload, 1) := by decide +kernel
theorem dX12_serve_104 : decode cX12_serve 104 = .ok (.iload 5, 2) := by decide +kernel
theorem dX12_serve_106 : decode cX12_serve 106 = .ok (.iadd, 1) := by decide +kernel
theorem dX12_serve_107 : decode cX12_serve 107 = .ok (.iastore, 1) := by decide +kernel
theorem dX12_serve_108 : decode cX12_serve 108 = .ok (.aload_n 0, 1) := by decide +kernel
theorem dX12_serve_109 : decode cX12_serve 109 = .ok (.getfield 153, 3) := by decide +kernel
theorem dX12_serve_112 : decode cX12_serve 112 = .ok (.iload 4, 2) := by decide +kernel
theorem dX12_serve_114 : decode cX12_serve 114 = .ok (.dup2, 1) := by decide +kernel
theorem dX12_serve_115 : decode cX12_serve 115 = .ok (.iaload, 1) := by decide +kernel
theorem dX12_serve_116 : decode cX12_serve 116 = .ok (.iload 5, 2) := by decide +kernel
theorem dX12_serve_118 : decode cX12_serve 118 = .ok (.iadd, 1) := by decide +kernel
theorem dX12_serve_119 : decode cX12_serve 119 = .ok (.iastore, 1) := by decide +kernel
theorem dX12_serve_120 : decode cX12_serve 120 = .ok (.iload_n 2, 1) := by decide +kernel
theorem dX12_serve_121 : decode cX12_serve 121 = .ok (.iload 5, 2) := by decide +kernel
theorem dX12_serve_123 : decode cX12_serve 123 = .ok (.iadd, 1) := by decide +kernel
theorem dX12_serve_124 : decode cX12_serve 124 = .ok (.istore_n 2, 1) := by decide +kernel
theorem dX12_serve_125 : decode cX12_serve 125 = .ok (.iload 5, 2) := by decide +kernel
theorem dX12_serve_127 : decode cX12_serve 127 = .ok (.ifCond .le 13, 3) := by decide +kernel
theorem dX12_serve_130 : decode cX12_serve 130 = .ok (.aload_n 0, 1) := by decide +kernel
theorem dX12_serve_131 : decode cX12_serve 131 = .ok (.getfield 135, 3) := by decide +kernel
theorem dX12_serve_134 : decode cX12_serve 134 = .ok (.iload_n 3, 1) := by decide +kernel
theorem dX12_serve_135 : decode cX12_serve 135 = .ok (.aload_n 0, 1) := by decide +kernel
theorem dX12_serve_136 : decode cX12_serve 136 = .ok (.getfield 200, 3) := by decide +kernel
theorem dX12_serve_139 : decode cX12_serve 139 = .ok (.iastore, 1) := by decide +kernel
theorem dX12_serve_140 : decode cX12_serve 140 = .ok (.aload_n 0, 1) := by decide +kernel
theorem dX12_serve_141 : decode cX12_serve 141 = .ok (.iload_n 3, 1) := by decide +kernel
theorem dX12_serve_142 : decode cX12_serve 142 = .ok (.invokevirtual 339, 3) := by decide +kernel
theorem dX12_serve_145 : decode cX12_serve 145 = .ok (.istore 6, 2) := by decide +kernel
theorem dX12_serve_147 : decode cX12_serve 147 = .ok (.iload 6, 2) := by decide +kernel
theorem dX12_serve_149 : decode cX12_serve 149 = .ok (.ifCond .eq 143, 3) := by decide +kernel
theorem dX12_serve_152 : decode cX12_serve 152 = .ok (.aload_n 0, 1) := by decide +kernel
theorem dX12_serve_153 : decode cX12_serve 153 = .ok (.getfield 200, 3) := by decide +kernel
theorem dX12_serve_156 : decode cX12_serve 156 = .ok (.aload_n 0, 1) := by decide +kernel
theorem dX12_serve_157 : decode cX12_serve 157 = .ok (.getfield 96, 3) := by decide +kernel
theorem dX12_serve_160 : decode cX12_serve 160 = .ok (.iload_n 1, 1) := by decide +kernel
theorem dX12_serve_161 : decode cX12_serve 161 = .ok (.iaload, 1) := by decide +kernel
theorem dX12_serve_162 : decode cX12_serve 162 = .ok (.isub, 1) := by decide +kernel
theorem dX12_serve_163 : decode cX12_serve 163 = .ok (.aload_n 0, 1) := by decide +kernel
theorem dX12_serve_164 : decode cX12_serve 164 = .ok (.getfield 49, 3) := by decide +kernel
theorem dX12_serve_167 : decode cX12_serve 167 = .ok (.iconst 0, 1) := by decide +kernel
theorem dX12_serve_168 : decode cX12_serve 168 = .ok (.iaload, 1) := by decide +kernel
theorem dX12_serve_169 : decode cX12_serve 169 = .ok (.if_icmp .gt 6, 3) := by decide +kernel
theorem dX12_serve_172 : decode cX12_serve 172 = .ok (.goto 120, 3) := by decide +kernel
theorem dX12_serve_175 : decode cX12_serve 175 = .ok (.aload_n 0, 1) := by decide +kernel
theorem dX12_serve_176 : decode cX12_serve 176 = .ok (.getfield 37, 3) := by decide +kernel
theorem dX12_serve_179 : decode cX12_serve 179 = .ok (.iload 4, 2) := by decide +kernel
theorem dX12_serve_181 : decode cX12_serve 181 = .ok (.iaload, 1) := by decide +kernel
theorem dX12_serve_182 : decode cX12_serve 182 = .ok (.istore 7, 2) := by decide +kernel
theorem dX12_serve_184 : decode cX12_serve 184 = .ok (.iload 7, 2) := by decide +kernel
theorem dX12_serve_186 : decode cX12_serve 186 = .ok (.iconst (-1), 1) := by decide +kernel
theorem dX12_serve_187 : decode cX12_serve 187 = .ok (.if_icmp .eq 76, 3) := by decide +kernel
theorem dX12_serve_190 : decode cX12_serve 190 = .ok (.aload_n 0, 1) := by decide +kernel
theorem dX12_serve_191 : decode cX12_serve 191 = .ok (.getfield 22, 3) := by decide +kernel
theorem dX12_serve_194 : decode cX12_serve 194 = .ok (.iload 7, 2) := by decide +kernel
theorem dX12_serve_196 : decode cX12_serve 196 = .ok (.iaload, 1) := by decide +kernel
theorem dX12_serve_197 : decode cX12_serve 197 = .ok (.iload 6, 2) := by decide +kernel
theorem dX12_serve_199 : decode cX12_serve 199 = .ok (.if_icmp .lt 64, 3) := by decide +kernel
theorem dX12_serve_202 : decode cX12_serve 202 = .ok (.aload_n 0, 1) := by decide +kernel
theorem dX12_serve_203 : decode cX12_serve 203 = .ok (.getfield 22, 3) := by decide +kernel
theorem dX12_serve_206 : decode cX12_serve 206 = .ok (.iload 7, 2) := by decide +kernel
theorem dX12_serve_208 : decode cX12_serve 208 = .ok (.dup2, 1) := by decide +kernel
theorem dX12_serve_209 : decode cX12_serve 209 = .ok (.iaload, 1) := by decide +kernel
theorem dX12_serve_210 : decode cX12_serve 210 = .ok (.iload 6, 2) := by decide +kernel
theorem dX12_serve_212 : decode cX12_serve 212 = .ok (.isub, 1) := by decide +kernel
theorem dX12_serve_213 : decode cX12_serve 213 = .ok (.iastore, 1) := by decide +kernel
theorem dX12_serve_214 : decode cX12_serve 214 = .ok (.aload_n 0, 1) := by decide +kernel
theorem dX12_serve_215 : decode cX12_serve 215 = .ok (.getfield 123, 3) := by decide +kernel
theorem dX12_serve_218 : decode cX12_serve 218 = .ok (.iload_n 3, 1) := by decide +kernel
theorem dX12_serve_219 : decode cX12_serve 219 = .ok (.dup2, 1) := by decide +kernel
theorem dX12_serve_220 : decode cX12_serve 220 = .ok (.iaload, 1) := by decide +kernel
theorem dX12_serve_221 : decode cX12_serve 221 = .ok (.iload 6, 2) := by decide +kernel
theorem dX12_serve_223 : decode cX12_serve 223 = .ok (.iadd, 1) := by decide +kernel
theorem dX12_serve_224 : decode cX12_serve 224 = .ok (.iastore, 1) := by decide +kernel
theorem dX12_serve_225 : decode cX12_serve 225 = .ok (.aload_n 0, 1) := by decide +kernel
theorem dX12_serve_226 : decode cX12_serve 226 = .ok (.getfield 138, 3) := by decide +kernel
theorem dX12_serve_229 : decode cX12_serve 229 = .ok (.iload_n 3, 1) := by decide +kernel
theorem dX12_serve_230 : decode cX12_serve 230 = .ok (.iload 7, 2) := by decide +kernel
theorem dX12_serve_232 : decode cX12_serve 232 = .ok (.iastore, 1) := by decide +kernel
theorem dX12_serve_233 : decode cX12_serve 233 = .ok (.aload_n 0, 1) := by decide +kernel
theorem dX12_serve_234 : decode cX12_serve 234 = .ok (.getfield 135, 3) := by decide +kernel
theorem dX12_serve_237 : decode cX12_serve 237 = .ok (.iload_n 3, 1) := by decide +kernel
theorem dX12_serve_238 : decode cX12_serve 238 = .ok (.aload_n 0, 1) := by decide +kernel
theorem dX12_serve_239 : decode cX12_serve 239 = .ok (.getfield 200, 3) := by decide +kernel
theorem dX12_serve_242 : decode cX12_serve 242 = .ok (.iastore, 1) := by decide +kernel
theorem dX12_serve_243 : decode cX12_serve 243 = .ok (.aload_n 0, 1) := by decide +kernel
theorem dX12_serve_244 : decode cX12_serve 244 = .ok (.getfield 153, 3) := by decide +kernel
theorem dX12_serve_247 : decode cX12_serve 247 = .ok (.iload 7, 2) := by decide +kernel
theorem dX12_serve_249 : decode cX12_serve 249 = .ok (.dup2, 1) := by decide +kernel
theorem dX12_serve_250 : decode cX12_serve 250 = .ok (.iaload, 1) := by decide +kernel
theorem dX12_serve_251 : decode cX12_serve 251 = .ok (.iload 6, 2) := by decide +kernel
theorem dX12_serve_253 : decode cX12_serve 253 = .ok (.iadd, 1) := by decide +kernel
theorem dX12_serve_254 : decode cX12_serve 254 = .ok (.iastore, 1) := by decide +kernel
theorem dX12_serve_255 : decode cX12_serve 255 = .ok (.iload_n 2, 1) := by decide +kernel
theorem dX12_serve_256 : decode cX12_serve 256 = .ok (.iload 6, 2) := by decide +kernel
theorem dX12_serve_258 : decode cX12_serve 258 = .ok (.iadd, 1) := by decide +kernel
theorem dX12_serve_259 : decode cX12_serve 259 = .ok (.istore_n 2, 1) := by decide +kernel
theorem dX12_serve_260 : decode cX12_serve 260 = .ok (.goto 32, 3) := by decide +kernel
theorem dX12_serve_263 : decode cX12_serve 263 = .ok (.aload_n 0, 1) := by decide +kernel
theorem dX12_serve_264 : decode cX12_serve 264 = .ok (.getfield 126, 3) := by decide +kernel
theorem dX12_serve_267 : decode cX12_serve 267 = .ok (.iload_n 3, 1) := by decide +kernel
theorem dX12_serve_268 : decode cX12_serve 268 = .ok (.dup2, 1) := by decide +kernel
theorem dX12_serve_269 : decode cX12_serve 269 = .ok (.iaload, 1) := by decide +kernel
theorem dX12_serve_270 : decode cX12_serve 270 = .ok (.iload 6, 2) := by decide +kernel
theorem dX12_serve_272 : decode cX12_serve 272 = .ok (.iadd, 1) := by decide +kernel
theorem dX12_serve_273 : decode cX12_serve 273 = .ok (.iastore, 1) := by decide +kernel
theorem dX12_serve_274 : decode cX12_serve 274 = .ok (.aload_n 0, 1) := by decide +kernel
theorem dX12_serve_275 : decode cX12_serve 275 = .ok (.getfield 102, 3) := by decide +kernel
theorem dX12_serve_278 : decode cX12_serve 278 = .ok (.iload_n 1, 1) := by decide +kernel
theorem dX12_serve_279 : decode cX12_serve 279 = .ok (.dup2, 1) := by decide +kernel
theorem dX12_serve_280 : decode cX12_serve 280 = .ok (.iaload, 1) := by decide +kernel
theorem dX12_serve_281 : decode cX12_serve 281 = .ok (.iload 6, 2) := by decide +kernel
theorem dX12_serve_283 : decode cX12_serve 283 = .ok (.aload_n 0, 1) := by decide +kernel
theorem dX12_serve_284 : decode cX12_serve 284 = .ok (.getfield 117, 3) := by decide +kernel
theorem dX12_serve_287 : decode cX12_serve 287 = .ok (.iload_n 3, 1) := by decide +kernel
theorem dX12_serve_288 : decode cX12_serve 288 = .ok (.iaload, 1) := by decide +kernel
theorem dX12_serve_289 : decode cX12_serve 289 = .ok (.imul, 1) := by decide +kernel
theorem dX12_serve_290 : decode cX12_serve 290 = .ok (.iadd, 1) := by decide +kernel
theorem dX12_serve_291 : decode cX12_serve 291 = .ok (.iastore, 1) := by decide +kernel
theorem dX12_serve_292 : decode cX12_serve 292 = .ok (.iinc 3 1, 3) := by decide +kernel
theorem dX12_serve_295 : decode cX12_serve 295 = .ok (.goto (-265), 3) := by decide +kernel
theorem dX12_serve_298 : decode cX12_serve 298 = .ok (.iload_n 2, 1) := by decide +kernel
theorem dX12_serve_299 : decode cX12_serve 299 = .ok (.ifCond .eq 13, 3) := by decide +kernel
theorem dX12_serve_302 : decode cX12_serve 302 = .ok (.aload_n 0, 1) := by decide +kernel
theorem dX12_serve_303 : decode cX12_serve 303 = .ok (.getfield 342, 3) := by decide +kernel
theorem dX12_serve_306 : decode cX12_serve 306 = .ok (.sipush 300, 3) := by decide +kernel
theorem dX12_serve_309 : decode cX12_serve 309 = .ok (.if_icmp .ne 4, 3) := by decide +kernel
theorem dX12_serve_312 : decode cX12_serve 312 = .ok (.return_, 1) := by decide +kernel
theorem dX12_serve_313 : decode cX12_serve 313 = .ok (.aload_n 0, 1) := by decide +kernel
theorem dX12_serve_314 : decode cX12_serve 314 = .ok (.getfield 141, 3) := by decide +kernel
theorem dX12_serve_317 : decode cX12_serve 317 = .ok (.aload_n 0, 1) := by decide +kernel
theorem dX12_serve_318 : decode cX12_serve 318 = .ok (.getfield 342, 3) := by decide +kernel
theorem dX12_serve_321 : decode cX12_serve 321 = .ok (.iload_n 1, 1) := by decide +kernel
theorem dX12_serve_322 : decode cX12_serve 322 = .ok (.iastore, 1) := by decide +kernel
theorem dX12_serve_323 : decode cX12_serve 323 = .ok (.aload_n 0, 1) := by decide +kernel
theorem dX12_serve_324 : decode cX12_serve 324 = .ok (.getfield 144, 3) := by decide +kernel
theorem dX12_serve_327 : decode cX12_serve 327 = .ok (.aload_n 0, 1) := by decide +kernel
theorem dX12_serve_328 : decode cX12_serve 328 = .ok (.getfield 342, 3) := by decide +kernel
theorem dX12_serve_331 : decode cX12_serve 331 = .ok (.aload_n 0, 1) := by decide +kernel
theorem dX12_serve_332 : decode cX12_serve 332 = .ok (.getfield 200, 3) := by decide +kernel
theorem dX12_serve_335 : decode cX12_serve 335 = .ok (.iastore, 1) := by decide +kernel
theorem dX12_serve_336 : decode cX12_serve 336 = .ok (.aload_n 0, 1) := by decide +kernel
theorem dX12_serve_337 : decode cX12_serve 337 = .ok (.getfield 147, 3) := by decide +kernel
theorem dX12_serve_340 : decode cX12_serve 340 = .ok (.aload_n 0, 1) := by decide +kernel
theorem dX12_serve_341 : decode cX12_serve 341 = .ok (.getfield 342, 3) := by decide +kernel
theorem dX12_serve_344 : decode cX12_serve 344 = .ok (.iload_n 2, 1) := by decide +kernel
theorem dX12_serve_345 : decode cX12_serve 345 = .ok (.iastore, 1) := by decide +kernel
theorem dX12_serve_346 : decode cX12_serve 346 = .ok (.aload_n 0, 1) := by decide +kernel
theorem dX12_serve_347 : decode cX12_serve 347 = .ok (.getfield 150, 3) := by decide +kernel
theorem dX12_serve_350 : decode cX12_serve 350 = .ok (.aload_n 0, 1) := by decide +kernel
theorem dX12_serve_351 : decode cX12_serve 351 = .ok (.getfield 342, 3) := by decide +kernel
theorem dX12_serve_354 : decode cX12_serve 354 = .ok (.aload_n 0, 1) := by decide +kernel
theorem dX12_serve_355 : decode cX12_serve 355 = .ok (.invokevirtual 345, 3) := by decide +kernel
theorem dX12_serve_358 : decode cX12_serve 358 = .ok (.iastore, 1) := by decide +kernel
theorem dX12_serve_359 : decode cX12_serve 359 = .ok (.aload_n 0, 1) := by decide +kernel
theorem dX12_serve_360 : decode cX12_serve 360 = .ok (.dup, 1) := by decide +kernel
theorem dX12_serve_361 : decode cX12_serve 361 = .ok (.getfield 342, 3) := by decide +kernel
theorem dX12_serve_364 : decode cX12_serve 364 = .ok (.iconst 1, 1) := by decide +kernel
theorem dX12_serve_365 : decode cX12_serve 365 = .ok (.iadd, 1) := by decide +kernel
theorem dX12_serve_366 : decode cX12_serve 366 = .ok (.putfield 342, 3) := by decide +kernel
theorem dX12_serve_369 : decode cX12_serve 369 = .ok (.return_, 1) := by decide +kernel
theorem dX12_parcels_0 : decode cX12_parcels 0 = .ok (.iconst 0, 1) := by decide +kernel
theorem dX12_parcels_1 : decode cX12_parcels 1 = .ok (.istore_n 1, 1) := by decide +kernel
theorem dX12_parcels_2 : decode cX12_parcels 2 = .ok (.sipush 2000, 3) := by decide +kernel
theorem dX12_parcels_5 : decode cX12_parcels 5 = .ok (.istore_n 2, 1) := by decide +kernel
theorem dX12_parcels_6 : decode cX12_parcels 6 = .ok (.iload_n 2, 1) := by decide +kernel
theorem dX12_parcels_7 : decode cX12_parcels 7 = .ok (.ifCond .le 126, 3) := by decide +kernel
theorem dX12_parcels_10 : decode cX12_parcels 10 = .ok (.iconst 0, 1) := by decide +kernel
theorem dX12_parcels_11 : decode cX12_parcels 11 = .ok (.istore_n 3, 1) := by decide +kernel
theorem dX12_parcels_12 : decode cX12_parcels 12 = .ok (.iconst 0, 1) := by decide +kernel
theorem dX12_parcels_13 : decode cX12_parcels 13 = .ok (.istore 4, 2) := by decide +kernel
theorem dX12_parcels_15 : decode cX12_parcels 15 = .ok (.iload 4, 2) := by decide +kernel
theorem dX12_parcels_17 : decode cX12_parcels 17 = .ok (.aload_n 0, 1) := by decide +kernel
theorem dX12_parcels_18 : decode cX12_parcels 18 = .ok (.getfield 168, 3) := by decide +kernel
theorem dX12_parcels_21 : decode cX12_parcels 21 = .ok (.if_icmp .ge 34, 3) := by decide +kernel
theorem dX12_parcels_24 : decode cX12_parcels 24 = .ok (.iload_n 3, 1) := by decide +kernel
theorem dX12_parcels_25 : decode cX12_parcels 25 = .ok (.aload_n 0, 1) := by decide +kernel
theorem dX12_parcels_26 : decode cX12_parcels 26 = .ok (.getfield 13, 3) := by decide +kernel
theorem dX12_parcels_29 : decode cX12_parcels 29 = .ok (.iload 4, 2) := by decide +kernel
theorem dX12_parcels_31 : decode cX12_parcels 31 = .ok (.iaload, 1) := by decide +kernel
theorem dX12_parcels_32 : decode cX12_parcels 32 = .ok (.iload_n 2, 1) := by decide +kernel
theorem dX12_parcels_33 : decode cX12_parcels 33 = .ok (.if_icmp .ne 13, 3) := by decide +kernel
theorem dX12_parcels_36 : decode cX12_parcels 36 = .ok (.aload_n 0, 1) := by decide +kernel
theorem dX12_parcels_37 : decode cX12_parcels 37 = .ok (.getfield 153, 3) := by decide +kernel
theorem dX12_parcels_40 : decode cX12_parcels 40 = .ok (.iload 4, 2) := by decide +kernel
theorem dX12_parcels_42 : decode cX12_parcels 42 = .ok (.iaload, 1) := by decide +kernel
theorem dX12_parcels_43 : decode cX12_parcels 43 = .ok (.goto 4, 3) := by decide +kernel
theorem dX12_parcels_46 : decode cX12_parcels 46 = .ok (.iconst 0, 1) := by decide +kernel
theorem dX12_parcels_47 : decode cX12_parcels 47 = .ok (.iadd, 1) := by decide +kernel
theorem dX12_parcels_48 : decode cX12_parcels 48 = .ok (.istore_n 3, 1) := by decide +kernel
theorem dX12_parcels_49 : decode cX12_parcels 49 = .ok (.iinc 4 1, 3) := by decide +kernel
theorem dX12_parcels_52 : decode cX12_parcels 52 = .ok (.goto (-37), 3) := by decide +kernel
theorem dX12_parcels_55 : decode cX12_parcels 55 = .ok (.iconst 0, 1) := by decide +kernel
theorem dX12_parcels_56 : decode cX12_parcels 56 = .ok (.istore 4, 2) := by decide +kernel
theorem dX12_parcels_58 : decode cX12_parcels 58 = .ok (.iload 4, 2) := by decide +kernel
theorem dX12_parcels_60 : decode cX12_parcels 60 = .ok (.iload_n 3, 1) := by decide +kernel
theorem dX12_parcels_61 : decode cX12_parcels 61 = .ok (.if_icmp .ge 66, 3) := by decide +kernel
theorem dX12_parcels_64 : decode cX12_parcels 64 = .ok (.iconst 0, 1) := by decide +kernel
theorem dX12_parcels_65 : decode cX12_parcels 65 = .ok (.istore 5, 2) := by decide +kernel
theorem dX12_parcels_67 : decode cX12_parcels 67 = .ok (.iload 5, 2) := by decide +kernel
theorem dX12_parcels_69 : decode cX12_parcels 69 = .ok (.iload_n 1, 1) := by decide +kernel
theorem dX12_parcels_70 : decode cX12_parcels 70 = .ok (.if_icmp .ge 24, 3) := by decide +kernel
theorem dX12_parcels_73 : decode cX12_parcels 73 = .ok (.aload_n 0, 1) := by decide +kernel
theorem dX12_parcels_74 : decode cX12_parcels 74 = .ok (.getfield 156, 3) := by decide +kernel
theorem dX12_parcels_77 : decode cX12_parcels 77 = .ok (.iload 5, 2) := by decide +kernel
theorem dX12_parcels_79 : decode cX12_parcels 79 = .ok (.iaload, 1) := by decide +kernel
theorem dX12_parcels_80 : decode cX12_parcels 80 = .ok (.iload_n 2, 1) := by decide +kernel
theorem dX12_parcels_81 : decode cX12_parcels 81 = .ok (.iadd, 1) := by decide +kernel
theorem dX12_parcels_82 : decode cX12_parcels 82 = .ok (.sipush 2000, 3) := by decide +kernel
theorem dX12_parcels_85 : decode cX12_parcels 85 = .ok (.if_icmp .le 9, 3) := by decide +kernel
theorem dX12_parcels_88 : decode cX12_parcels 88 = .ok (.iinc 5 1, 3) := by decide +kernel
theorem dX12_parcels_91 : decode cX12_parcels 91 = .ok (.goto (-24), 3) := by decide +kernel
theorem dX12_parcels_94 : decode cX12_parcels 94 = .ok (.iload 5, 2) := by decide +kernel
theorem dX12_parcels_96 : decode cX12_parcels 96 = .ok (.iload_n 1, 1) := by decide +kernel
theorem dX12_parcels_97 : decode cX12_parcels 97 = .ok (.if_icmp .ne 13, 3) := by decide +kernel
theorem dX12_parcels_100 : decode cX12_parcels 100 = .ok (.aload_n 0, 1) := by decide +kernel
theorem dX12_parcels_101 : decode cX12_parcels 101 = .ok (.getfield 156, 3) := by decide +kernel
theorem dX12_parcels_104 : decode cX12_parcels 104 = .ok (.iload_n 1, 1) := by decide +kernel
theorem dX12_parcels_105 : decode cX12_parcels 105 = .ok (.iconst 0, 1) := by decide +kernel
theorem dX12_parcels_106 : decode cX12_parcels 106 = .ok (.iastore, 1) := by decide +kernel
theorem dX12_parcels_107 : decode cX12_parcels 107 = .ok (.iinc 1 1, 3) := by decide +kernel
theorem dX12_parcels_110 : decode cX12_parcels 110 = .ok (.aload_n 0, 1) := by decide +kernel
theorem dX12_parcels_111 : decode cX12_parcels 111 = .ok (.getfield 156, 3) := by decide +kernel
theorem dX12_parcels_114 : decode cX12_parcels 114 = .ok (.iload 5, 2) := by decide +kernel
theorem dX12_parcels_116 : decode cX12_parcels 116 = .ok (.dup2, 1) := by decide +kernel
theorem dX12_parcels_117 : decode cX12_parcels 117 = .ok (.iaload, 1) := by decide +kernel
theorem dX12_parcels_118 : decode cX12_parcels 118 = .ok (.iload_n 2, 1) := by decide +kernel
theorem dX12_parcels_119 : decode cX12_parcels 119 = .ok (.iadd, 1) := by decide +kernel
theorem dX12_parcels_120 : decode cX12_parcels 120 = .ok (.iastore, 1) := by decide +kernel
theorem dX12_parcels_121 : decode cX12_parcels 121 = .ok (.iinc 4 1, 3) := by decide +kernel
theorem dX12_parcels_124 : decode cX12_parcels 124 = .ok (.goto (-66), 3) := by decide +kernel
theorem dX12_parcels_127 : decode cX12_parcels 127 = .ok (.iinc 2 (-1), 3) := by decide +kernel
theorem dX12_parcels_130 : decode cX12_parcels 130 = .ok (.goto (-124), 3) := by decide +kernel
theorem dX12_parcels_133 : decode cX12_parcels 133 = .ok (.iload_n 1, 1) := by decide +kernel
theorem dX12_parcels_134 : decode cX12_parcels 134 = .ok (.ireturn, 1) := by decide +kernel
set_option maxRecDepth 20000 in
theorem glX12_order_0 : GoodIn wsX12_order ([.fieldLink RX12 165 "PostHouseModel" "thrown" "I", .fieldLink RX12 108 "PostHouseModel" "wants" "[I", .fieldLink RX12 96 "PostHouseModel" "orderDay" "[I", .fieldLink RX12 99 "PostHouseModel" "orderMoney" "[I", .fieldLink RX12 102 "PostHouseModel" "orderCredit" "[I", .fieldLink RX12 105 "PostHouseModel" "orderPost" "[I", .methodLink RX12 174 yX12_isOrder, .instanceMethod yX12_isOrder, .selects RX12 yX12_isOrder yX12_isOrder, .initialized RX12, .code yX12_isOrder cX12_isOrder 2 (some .boolean), .fieldLink RX12 171 "PostHouseModel" "orders" "I", .methodLink RX12 185 yX12_isIn, .static yX12_isIn, .code yX12_isIn cX12_isIn 3 (some .boolean), .methodLink RX12 339 yX12_left, .instanceMethod yX12_left, .selects RX12 yX12_left yX12_left, .code yX12_left cX12_left 2 (some .int), .fieldLink RX12 114 "PostHouseModel" "wantMany" "[I", .fieldLink RX12 120 "PostHouseModel" "wantSent" "[I", .fieldLink RX12 123 "PostHouseModel" "wantPlaced" "[I", .fieldLink RX12 126 "PostHouseModel" "wantCancelled" "[I"]) := goodIn_sub (fun _ h => List.mem_cons_of_mem _ (List.mem_append_left _ (h))) (by decide +kernel)
set_option maxRecDepth 20000 in
theorem glX12_order_1 : GoodIn wsX12_order (wsX120) := goodIn_sub (fun _ h => List.mem_cons_of_mem _ (List.mem_append_right _ (h))) ag_wsX120
set_option maxRecDepth 20000 in
theorem ggX12_order_X12_isOrder : GoodIn wsX12_order wsX12_isOrder := goodIn_c (glX12_order_0 _ (List.mem_of_getElem? (i := 10) rfl)) (goodIn_app (goodIn_c (glX12_order_0 _ (List.mem_of_getElem? (i := 11) rfl)) (goodIn_n)) (glX12_order_1))
set_option maxRecDepth 20000 in
theorem gX12_order_X12_isOrder : GoodIn wsX12_order (wsV RX12 174 RX12 yX12_isOrder wsX12_isOrder) := goodIn_app (goodIn_of _ (by decide +kernel)) ggX12_order_X12_isOrder
set_option maxRecDepth 20000 in
theorem ggX12_order_X12_isIn : GoodIn wsX12_order wsX12_isIn := goodIn_c (glX12_order_0 _ (List.mem_of_getElem? (i := 14) rfl)) (goodIn_n)
set_option maxRecDepth 20000 in
theorem gX12_order_X12_isIn : GoodIn wsX12_order (va_wsS RX12 185 yX12_isIn wsX12_isIn) := goodIn_app (goodIn_of _ (by decide +kernel)) ggX12_order_X12_isIn
set_option maxRecDepth 20000 in
theorem ggX12_order_X12_left : GoodIn wsX12_order wsX12_left := goodIn_c (glX12_order_0 _ (List.mem_of_getElem? (i := 18) rfl)) (goodIn_app (goodIn_c (glX12_order_0 _ (List.mem_of_getElem? (i := 19) rfl)) (goodIn_c (glX12_order_0 _ (List.mem_of_getElem? (i := 20) rfl)) (goodIn_c (glX12_order_0 _ (List.mem_of_getElem? (i := 21) rfl)) (goodIn_c (glX12_order_0 _ (List.mem_of_getElem? (i := 22) rfl)) (goodIn_n))))) (glX12_order_1))
set_option maxRecDepth 20000 in
theorem gX12_order_X12_left : GoodIn wsX12_order (wsV RX12 339 RX12 yX12_left wsX12_left) := goodIn_app (goodIn_of _ (by decide +kernel)) ggX12_order_X12_left
theorem dX12_order_0 : decode cX12_order 0 = .ok (.aload_n 0, 1) := by decide +kernel
theorem dX12_order_1 : decode cX12_order 1 = .ok (.aload_n 0, 1) := by decide +kernel
theorem dX12_order_2 : decode cX12_order 2 = .ok (.iload_n 1, 1) := by decide +kernel
theorem dX12_order_3 : decode cX12_order 3 = .ok (.invokevirtual 174, 3) := by decide +kernel
theorem dX12_order_6 : decode cX12_order 6 = .ok (.ifCond .ne 7, 3) := by decide +kernel
theorem dX12_order_9 : decode cX12_order 9 = .ok (.iconst 1, 1) := by decide +kernel
theorem dX12_order_10 : decode cX12_order 10 = .ok (.goto 17, 3) := by decide +kernel
theorem dX12_order_13 : decode cX12_order 13 = .ok (.iload_n 2, 1) := by decide +kernel
theorem dX12_order_14 : decode cX12_order 14 = .ok (.iconst 0, 1) := by decide +kernel
theorem dX12_order_15 : decode cX12_order 15 = .ok (.iconst 5, 1) := by decide +kernel
theorem dX12_order_16 : decode cX12_order 16 = .ok (.invokestatic 185, 3) := by decide +kernel
theorem dX12_order_19 : decode cX12_order 19 = .ok (.ifCond .ne 7, 3) := by decide +kernel
theorem dX12_order_22 : decode cX12_order 22 = .ok (.iconst 2, 1) := by decide +kernel
theorem dX12_order_23 : decode cX12_order 23 = .ok (.goto 4, 3) := by decide +kernel
theorem dX12_order_26 : decode cX12_order 26 = .ok (.iconst 0, 1) := by decide +kernel
theorem dX12_order_27 : decode cX12_order 27 = .ok (.putfield 165, 3) := by decide +kernel
theorem dX12_order_30 : decode cX12_order 30 = .ok (.aload_n 0, 1) := by decide +kernel
theorem dX12_order_31 : decode cX12_order 31 = .ok (.getfield 165, 3) := by decide +kernel
theorem dX12_order_34 : decode cX12_order 34 = .ok (.ifCond .le 5, 3) := by decide +kernel
theorem dX12_order_37 : decode cX12_order 37 = .ok (.iconst 0, 1) := by decide +kernel
theorem dX12_order_38 : decode cX12_order 38 = .ok (.ireturn, 1) := by decide +kernel
theorem dX12_order_39 : decode cX12_order 39 = .ok (.iconst 0, 1) := by decide +kernel
theorem dX12_order_40 : decode cX12_order 40 = .ok (.istore_n 3, 1) := by decide +kernel
theorem dX12_order_41 : decode cX12_order 41 = .ok (.bipush 8, 2) := by decide +kernel
theorem dX12_order_43 : decode cX12_order 43 = .ok (.iload_n 1, 1) := by decide +kernel
theorem dX12_order_44 : decode cX12_order 44 = .ok (.imul, 1) := by decide +kernel
theorem dX12_order_45 : decode cX12_order 45 = .ok (.istore 4, 2) := by decide +kernel
theorem dX12_order_47 : decode cX12_order 47 = .ok (.iload 4, 2) := by decide +kernel
theorem dX12_order_49 : decode cX12_order 49 = .ok (.bipush 8, 2) := by decide +kernel
theorem dX12_order_51 : decode cX12_order 51 = .ok (.iload_n 1, 1) := by decide +kernel
theorem dX12_order_52 : decode cX12_order 52 = .ok (.imul, 1) := by decide +kernel
theorem dX12_order_53 : decode cX12_order 53 = .ok (.aload_n 0, 1) := by decide +kernel
theorem dX12_order_54 : decode cX12_order 54 = .ok (.getfield 108, 3) := by decide +kernel
theorem dX12_order_57 : decode cX12_order 57 = .ok (.iload_n 1, 1) := by decide +kernel
theorem dX12_order_58 : decode cX12_order 58 = .ok (.iaload, 1) := by decide +kernel
theorem dX12_order_59 : decode cX12_order 59 = .ok (.iadd, 1) := by decide +kernel
theorem dX12_order_60 : decode cX12_order 60 = .ok (.if_icmp .ge 18, 3) := by decide +kernel
theorem dX12_order_63 : decode cX12_order 63 = .ok (.iload_n 3, 1) := by decide +kernel
theorem dX12_order_64 : decode cX12_order 64 = .ok (.aload_n 0, 1) := by decide +kernel
theorem dX12_order_65 : decode cX12_order 65 = .ok (.iload 4, 2) := by decide +kernel
theorem dX12_order_67 : decode cX12_order 67 = .ok (.invokevirtual 339, 3) := by decide +kernel
theorem dX12_order_70 : decode cX12_order 70 = .ok (.iadd, 1) := by decide +kernel
theorem dX12_order_71 : decode cX12_order 71 = .ok (.istore_n 3, 1) := by decide +kernel
theorem dX12_order_72 : decode cX12_order 72 = .ok (.iinc 4 1, 3) := by decide +kernel
theorem dX12_order_75 : decode cX12_order 75 = .ok (.goto (-28), 3) := by decide +kernel
theorem dX12_order_78 : decode cX12_order 78 = .ok (.iload_n 2, 1) := by decide +kernel
theorem dX12_order_79 : decode cX12_order 79 = .ok (.tableswitch 63 0 4 #[33, 40, 47, 54, 61], 33) := by decide +kernel
theorem dX12_order_112 : decode cX12_order 112 = .ok (.aload_n 0, 1) := by decide +kernel
theorem dX12_order_113 : decode cX12_order 113 = .ok (.getfield 96, 3) := by decide +kernel
theorem dX12_order_116 : decode cX12_order 116 = .ok (.iload_n 1, 1) := by decide +kernel
theorem dX12_order_117 : decode cX12_order 117 = .ok (.iaload, 1) := by decide +kernel
theorem dX12_order_118 : decode cX12_order 118 = .ok (.ireturn, 1) := by decide +kernel
theorem dX12_order_119 : decode cX12_order 119 = .ok (.aload_n 0, 1) := by decide +kernel
theorem dX12_order_120 : decode cX12_order 120 = .ok (.getfield 108, 3) := by decide +kernel
theorem dX12_order_123 : decode cX12_order 123 = .ok (.iload_n 1, 1) := by decide +kernel
theorem dX12_order_124 : decode cX12_order 124 = .ok (.iaload, 1) := by decide +kernel
theorem dX12_order_125 : decode cX12_order 125 = .ok (.ireturn, 1) := by decide +kernel
theorem dX12_order_126 : decode cX12_order 126 = .ok (.aload_n 0, 1) := by decide +kernel
theorem dX12_order_127 : decode cX12_order 127 = .ok (.getfield 99, 3) := by decide +kernel
theorem dX12_order_130 : decode cX12_order 130 = .ok (.iload_n 1, 1) := by decide +kernel
theorem dX12_order_131 : decode cX12_order 131 = .ok (.iaload, 1) := by decide +kernel
theorem dX12_order_132 : decode cX12_order 132 = .ok (.ireturn, 1) := by decide +kernel
theorem dX12_order_133 : decode cX12_order 133 = .ok (.aload_n 0, 1) := by decide +kernel
theorem dX12_order_134 : decode cX12_order 134 = .ok (.getfield 102, 3) := by decide +kernel
theorem dX12_order_137 : decode cX12_order 137 = .ok (.iload_n 1, 1) := by decide +kernel
theorem dX12_order_138 : decode cX12_order 138 = .ok (.iaload, 1) := by decide +kernel
theorem dX12_order_139 : decode cX12_order 139 = .ok (.ireturn, 1) := by decide +kernel
theorem dX12_order_140 : decode cX12_order 140 = .ok (.iload_n 3, 1) := by decide +kernel
theorem dX12_order_141 : decode cX12_order 141 = .ok (.ireturn, 1) := by decide +kernel
theorem dX12_order_142 : decode cX12_order 142 = .ok (.aload_n 0, 1) := by decide +kernel
theorem dX12_order_143 : decode cX12_order 143 = .ok (.getfield 105, 3) := by decide +kernel
theorem dX12_order_146 : decode cX12_order 146 = .ok (.iload_n 1, 1) := by decide +kernel
theorem dX12_order_147 : decode cX12_order 147 = .ok (.iaload, 1) := by decide +kernel
theorem dX12_order_148 : decode cX12_order 148 = .ok (.ireturn, 1) := by decide +kernel
set_option maxRecDepth 20000 in
theorem glX12_want_0 : GoodIn wsX12_want ([.fieldLink RX12 165 "PostHouseModel" "thrown" "I", .fieldLink RX12 111 "PostHouseModel" "wantThing" "[I", .fieldLink RX12 114 "PostHouseModel" "wantMany" "[I", .fieldLink RX12 117 "PostHouseModel" "wantPrice" "[I", .fieldLink RX12 120 "PostHouseModel" "wantSent" "[I", .fieldLink RX12 123 "PostHouseModel" "wantPlaced" "[I", .fieldLink RX12 126 "PostHouseModel" "wantCancelled" "[I", .fieldLink RX12 129 "PostHouseModel" "wantReturned" "[I", .fieldLink RX12 135 "PostHouseModel" "wantDay" "[I", .fieldLink RX12 138 "PostHouseModel" "wantOther" "[I", .methodLink RX12 348 yX12_isWant, .instanceMethod yX12_isWant, .selects RX12 yX12_isWant yX12_isWant, .initialized RX12, .code yX12_isWant cX12_isWant 3 (some .boolean), .fieldLink RX12 108 "PostHouseModel" "wants" "[I", .methodLink RX12 174 yX12_isOrder, .instanceMethod yX12_isOrder, .selects RX12 yX12_isOrder yX12_isOrder, .code yX12_isOrder cX12_isOrder 2 (some .boolean), .fieldLink RX12 171 "PostHouseModel" "orders" "I", .methodLink RX12 185 yX12_isIn, .static yX12_isIn, .code yX12_isIn cX12_isIn 3 (some .boolean)]) := goodIn_sub (fun _ h => List.mem_cons_of_mem _ (List.mem_append_left _ (h))) (by decide +kernel)
set_option maxRecDepth 20000 in
theorem glX12_want_1 : GoodIn wsX12_want (wsX120) := goodIn_sub (fun _ h => List.mem_cons_of_mem _ (List.mem_append_right _ (h))) ag_wsX120
set_option maxRecDepth 20000 in
theorem ggX12_want_X12_isWant : GoodIn wsX12_want wsX12_isWant := goodIn_c (glX12_want_0 _ (List.mem_of_getElem? (i := 14) rfl)) (goodIn_app (goodIn_c (glX12_want_0 _ (List.mem_of_getElem? (i := 15) rfl)) (goodIn_c (glX12_want_0 _ (List.mem_of_getElem? (i := 16) rfl)) (goodIn_c (glX12_want_0 _ (List.mem_of_getElem? (i := 17) rfl)) (goodIn_c (glX12_want_0 _ (List.mem_of_getElem? (i := 18) rfl)) (goodIn_c (glX12_want_0 _ (List.mem_of_getElem? (i := 13) rfl)) (goodIn_c (glX12_want_0 _ (List.mem_of_getElem? (i := 19) rfl)) (goodIn_c (glX12_want_0 _ (List.mem_of_getElem? (i := 20) rfl)) (goodIn_n)))))))) (glX12_want_1))
set_option maxRecDepth 20000 in
theorem gX12_want_X12_isWant : GoodIn wsX12_want (wsV RX12 348 RX12 yX12_isWant wsX12_isWant) := goodIn_app (goodIn_of _ (by decide +kernel)) ggX12_want_X12_isWant
set_option maxRecDepth 20000 in
theorem ggX12_want_X12_isIn : GoodIn wsX12_want wsX12_isIn := goodIn_c (glX12_want_0 _ (List.mem_of_getElem? (i := 23) rfl)) (goodIn_n)
set_option maxRecDepth 20000 in
theorem gX12_want_X12_isIn : GoodIn wsX12_want (va_wsS RX12 185 yX12_isIn wsX12_isIn) := goodIn_app (goodIn_of _ (by decide +kernel)) ggX12_want_X12_isIn
theorem dX12_want_0 : decode cX12_want 0 = .ok (.aload_n 0, 1) := by decide +kernel
theorem dX12_want_1 : decode cX12_want 1 = .ok (.aload_n 0, 1) := by decide +kernel
theorem dX12_want_2 : decode cX12_want 2 = .ok (.iload_n 1, 1) := by decide +kernel
theorem dX12_want_3 : decode cX12_want 3 = .ok (.iload_n 2, 1) := by decide +kernel
theorem dX12_want_4 : decode cX12_want 4 = .ok (.invokevirtual 348, 3) := by decide +kernel
theorem dX12_want_7 : decode cX12_want 7 = .ok (.ifCond .ne 7, 3) := by decide +kernel
theorem dX12_want_10 : decode cX12_want 10 = .ok (.iconst 1, 1) := by decide +kernel
theorem dX12_want_11 : decode cX12_want 11 = .ok (.goto 18, 3) := by decide +kernel
theorem dX12_want_14 : decode cX12_want 14 = .ok (.iload_n 3, 1) := by decide +kernel
theorem dX12_want_15 : decode cX12_want 15 = .ok (.iconst 0, 1) := by decide +kernel
theorem dX12_want_16 : decode cX12_want 16 = .ok (.bipush 8, 2) := by decide +kernel
theorem dX12_want_18 : decode cX12_want 18 = .ok (.invokestatic 185, 3) := by decide +kernel
theorem dX12_want_21 : decode cX12_want 21 = .ok (.ifCond .ne 7, 3) := by decide +kernel
theorem dX12_want_24 : decode cX12_want 24 = .ok (.iconst 2, 1) := by decide +kernel
theorem dX12_want_25 : decode cX12_want 25 = .ok (.goto 4, 3) := by decide +kernel
theorem dX12_want_28 : decode cX12_want 28 = .ok (.iconst 0, 1) := by decide +kernel
theorem dX12_want_29 : decode cX12_want 29 = .ok (.putfield 165, 3) := by decide +kernel
theorem dX12_want_32 : decode cX12_want 32 = .ok (.aload_n 0, 1) := by decide +kernel
theorem dX12_want_33 : decode cX12_want 33 = .ok (.getfield 165, 3) := by decide +kernel
theorem dX12_want_36 : decode cX12_want 36 = .ok (.ifCond .le 5, 3) := by decide +kernel
theorem dX12_want_39 : decode cX12_want 39 = .ok (.iconst 0, 1) := by decide +kernel
theorem dX12_want_40 : decode cX12_want 40 = .ok (.ireturn, 1) := by decide +kernel
theorem dX12_want_41 : decode cX12_want 41 = .ok (.bipush 8, 2) := by decide +kernel
theorem dX12_want_43 : decode cX12_want 43 = .ok (.iload_n 1, 1) := by decide +kernel
theorem dX12_want_44 : decode cX12_want 44 = .ok (.imul, 1) := by decide +kernel
theorem dX12_want_45 : decode cX12_want 45 = .ok (.iload_n 2, 1) := by decide +kernel
theorem dX12_want_46 : decode cX12_want 46 = .ok (.iadd, 1) := by decide +kernel
theorem dX12_want_47 : decode cX12_want 47 = .ok (.istore 4, 2) := by decide +kernel
theorem dX12_want_49 : decode cX12_want 49 = .ok (.iload_n 3, 1) := by decide +kernel
theorem dX12_want_50 : decode cX12_want 50 = .ok (.tableswitch 110 0 7 #[46, 54, 62, 70, 78, 86, 94, 102], 46) := by decide +kernel
theorem dX12_want_96 : decode cX12_want 96 = .ok (.aload_n 0, 1) := by decide +kernel
theorem dX12_want_97 : decode cX12_want 97 = .ok (.getfield 111, 3) := by decide +kernel
theorem dX12_want_100 : decode cX12_want 100 = .ok (.iload 4, 2) := by decide +kernel
theorem dX12_want_102 : decode cX12_want 102 = .ok (.iaload, 1) := by decide +kernel
theorem dX12_want_103 : decode cX12_want 103 = .ok (.ireturn, 1) := by decide +kernel
theorem dX12_want_104 : decode cX12_want 104 = .ok (.aload_n 0, 1) := by decide +kernel
theorem dX12_want_105 : decode cX12_want 105 = .ok (.getfield 114, 3) := by decide +kernel
theorem dX12_want_108 : decode cX12_want 108 = .ok (.iload 4, 2) := by decide +kernel
theorem dX12_want_110 : decode cX12_want 110 = .ok (.iaload, 1) := by decide +kernel
theorem dX12_want_111 : decode cX12_want 111 = .ok (.ireturn, 1) := by decide +kernel
theorem dX12_want_112 : decode cX12_want 112 = .ok (.aload_n 0, 1) := by decide +kernel
theorem dX12_want_113 : decode cX12_want 113 = .ok (.getfield 117, 3) := by decide +kernel
theorem dX12_want_116 : decode cX12_want 116 = .ok (.iload 4, 2) := by decide +kernel
theorem dX12_want_118 : decode cX12_want 118 = .ok (.iaload, 1) := by decide +kernel
theorem dX12_want_119 : decode cX12_want 119 = .ok (.ireturn, 1) := by decide +kernel
theorem dX12_want_120 : decode cX12_want 120 = .ok (.aload_n 0, 1) := by decide +kernel
theorem dX12_want_121 : decode cX12_want 121 = .ok (.getfield 120, 3) := by decide +kernel
theorem dX12_want_124 : decode cX12_want 124 = .ok (.iload 4, 2) := by decide +kernel
theorem dX12_want_126 : decode cX12_want 126 = .ok (.iaload, 1) := by decide +kernel
theorem dX12_want_127 : decode cX12_want 127 = .ok (.ireturn, 1) := by decide +kernel
theorem dX12_want_128 : decode cX12_want 128 = .ok (.aload_n 0, 1) := by decide +kernel
theorem dX12_want_129 : decode cX12_want 129 = .ok (.getfield 123, 3) := by decide +kernel
theorem dX12_want_132 : decode cX12_want 132 = .ok (.iload 4, 2) := by decide +kernel
theorem dX12_want_134 : decode cX12_want 134 = .ok (.iaload, 1) := by decide +kernel
theorem dX12_want_135 : decode cX12_want 135 = .ok (.ireturn, 1) := by decide +kernel
theorem dX12_want_136 : decode cX12_want 136 = .ok (.aload_n 0, 1) := by decide +kernel
theorem dX12_want_137 : decode cX12_want 137 = .ok (.getfield 126, 3) := by decide +kernel
theorem dX12_want_140 : decode cX12_want 140 = .ok (.iload 4, 2) := by decide +kernel
theorem dX12_want_142 : decode cX12_want 142 = .ok (.iaload, 1) := by decide +kernel
theorem dX12_want_143 : decode cX12_want 143 = .ok (.ireturn, 1) := by decide +kernel
theorem dX12_want_144 : decode cX12_want 144 = .ok (.aload_n 0, 1) := by decide +kernel
theorem dX12_want_145 : decode cX12_want 145 = .ok (.getfield 129, 3) := by decide +kernel
theorem dX12_want_148 : decode cX12_want 148 = .ok (.iload 4, 2) := by decide +kernel
theorem dX12_want_150 : decode cX12_want 150 = .ok (.iaload, 1) := by decide +kernel
theorem dX12_want_151 : decode cX12_want 151 = .ok (.ireturn, 1) := by decide +kernel
theorem dX12_want_152 : decode cX12_want 152 = .ok (.aload_n 0, 1) := by decide +kernel
theorem dX12_want_153 : decode cX12_want 153 = .ok (.getfield 135, 3) := by decide +kernel
theorem dX12_want_156 : decode cX12_want 156 = .ok (.iload 4, 2) := by decide +kernel
theorem dX12_want_158 : decode cX12_want 158 = .ok (.iaload, 1) := by decide +kernel
theorem dX12_want_159 : decode cX12_want 159 = .ok (.ireturn, 1) := by decide +kernel
theorem dX12_want_160 : decode cX12_want 160 = .ok (.aload_n 0, 1) := by decide +kernel
theorem dX12_want_161 : decode cX12_want 161 = .ok (.getfield 138, 3) := by decide +kernel
theorem dX12_want_164 : decode cX12_want 164 = .ok (.iload 4, 2) := by decide +kernel
theorem dX12_want_166 : decode cX12_want 166 = .ok (.iaload, 1) := by decide +kernel
theorem dX12_want_167 : decode cX12_want 167 = .ok (.ireturn, 1) := by decide +kernel
set_option maxRecDepth 20000 in
theorem glX12_back_0 : GoodIn wsX12_back (wsX12_back_r1) := goodIn_sub (fun _ h => List.mem_cons_of_mem _ (List.mem_append_left _ (List.mem_append_left _ (h)))) (by decide +kernel)
set_option maxRecDepth 20000 in
theorem glX12_back_2 : GoodIn wsX12_back (wsX120) := goodIn_sub (fun _ h => List.mem_cons_of_mem _ (List.mem_append_right _ (h))) ag_wsX120
set_option maxRecDepth 20000 in
theorem ggX12_back_X12_isWant : GoodIn wsX12_back wsX12_isWant := goodIn_c (glX12_back_0 _ (List.mem_of_getElem? (i := 17) rfl)) (goodIn_app (goodIn_c (glX12_back_0 _ (List.mem_of_getElem? (i := 18) rfl)) (goodIn_c (glX12_back_0 _ (List.mem_of_getElem? (i := 19) rfl)) (goodIn_c (glX12_back_0 _ (List.mem_of_getElem? (i := 20) rfl)) (goodIn_c (glX12_back_0 _ (List.mem_of_getElem? (i := 21) rfl)) (goodIn_c (glX12_back_0 _ (List.mem_of_getElem? (i := 16) rfl)) (goodIn_c (glX12_back_0 _ (List.mem_of_getElem? (i := 22) rfl)) (goodIn_c (glX12_back_0 _ (List.mem_of_getElem? (i := 23) rfl)) (goodIn_n)))))))) (glX12_back_2))
set_option maxRecDepth 20000 in
theorem gX12_back_X12_isWant : GoodIn wsX12_back (wsV RX12 348 RX12 yX12_isWant wsX12_isWant) := goodIn_app (goodIn_of _ (by decide +kernel)) ggX12_back_X12_isWant
set_option maxRecDepth 20000 in
theorem glX12_back_1 : GoodIn wsX12_back (wsX12_back_r2) := goodIn_sub (fun _ h => List.mem_cons_of_mem _ (List.mem_append_left _ (List.mem_append_right _ (h)))) (by decide +kernel)
set_option maxRecDepth 20000 in
theorem ggX12_back_X12_isIn : GoodIn wsX12_back wsX12_isIn := goodIn_c (glX12_back_1 _ (List.mem_of_getElem? (i := 2) rfl)) (goodIn_n)
set_option maxRecDepth 20000 in
theorem gX12_back_X12_isIn : GoodIn wsX12_back (va_wsS RX12 185 yX12_isIn wsX12_isIn) := goodIn_app (goodIn_of _ (by decide +kernel)) ggX12_back_X12_isIn
theorem dX12_back_0 : decode cX12_back 0 = .ok (.aload_n 0, 1) := by decide +kernel
theorem dX12_back_1 : decode cX12_back 1 = .ok (.aload_n 0, 1) := by decide +kernel
theorem dX12_back_2 : decode cX12_back 2 = .ok (.iload_n 1, 1) := by decide +kernel
theorem dX12_back_3 : decode cX12_back 3 = .ok (.iload_n 2, 1) := by decide +kernel
theorem dX12_back_4 : decode cX12_back 4 = .ok (.invokevirtual 348, 3) := by decide +kernel
theorem dX12_back_7 : decode cX12_back 7 = .ok (.ifCond .ne 7, 3) := by decide +kernel
theorem dX12_back_10 : decode cX12_back 10 = .ok (.iconst 1, 1) := by decide +kernel
theorem dX12_back_11 : decode cX12_back 11 = .ok (.goto 18, 3) := by decide +kernel
theorem dX12_back_14 : decode cX12_back 14 = .ok (.iload_n 3, 1) := by decide +kernel
theorem dX12_back_15 : decode cX12_back 15 = .ok (.iconst 1, 1) := by decide +kernel
theorem dX12_back_16 : decode cX12_back 16 = .ok (.bipush 99, 2) := by decide +kernel
theorem dX12_back_18 : decode cX12_back 18 = .ok (.invokestatic 185, 3) := by decide +kernel
theorem dX12_back_21 : decode cX12_back 21 = .ok (.ifCond .ne 7, 3) := by decide +kernel
theorem dX12_back_24 : decode cX12_back 24 = .ok (.iconst 2, 1) := by decide +kernel
theorem dX12_back_25 : decode cX12_back 25 = .ok (.goto 4, 3) := by decide +kernel
theorem dX12_back_28 : decode cX12_back 28 = .ok (.iconst 0, 1) := by decide +kernel
theorem dX12_back_29 : decode cX12_back 29 = .ok (.putfield 165, 3) := by decide +kernel
theorem dX12_back_32 : decode cX12_back 32 = .ok (.aload_n 0, 1) := by decide +kernel
theorem dX12_back_33 : decode cX12_back 33 = .ok (.getfield 165, 3) := by decide +kernel
theorem dX12_back_36 : decode cX12_back 36 = .ok (.ifCond .le 5, 3) := by decide +kernel
theorem dX12_back_39 : decode cX12_back 39 = .ok (.iconst 0, 1) := by decide +kernel
theorem dX12_back_40 : decode cX12_back 40 = .ok (.ireturn, 1) := by decide +kernel
theorem dX12_back_41 : decode cX12_back 41 = .ok (.bipush 8, 2) := by decide +kernel
theorem dX12_back_43 : decode cX12_back 43 = .ok (.iload_n 1, 1) := by decide +kernel
theorem dX12_back_44 : decode cX12_back 44 = .ok (.imul, 1) := by decide +kernel
theorem dX12_back_45 : decode cX12_back 45 = .ok (.iload_n 2, 1) := by decide +kernel
theorem dX12_back_46 : decode cX12_back 46 = .ok (.iadd, 1) := by decide +kernel
theorem dX12_back_47 : decode cX12_back 47 = .ok (.istore 4, 2) := by decide +kernel
theorem dX12_back_49 : decode cX12_back 49 = .ok (.aload_n 0, 1) := by decide +kernel
theorem dX12_back_50 : decode cX12_back 50 = .ok (.getfield 135, 3) := by decide +kernel
theorem dX12_back_53 : decode cX12_back 53 = .ok (.iload 4, 2) := by decide +kernel
theorem dX12_back_55 : decode cX12_back 55 = .ok (.iaload, 1) := by decide +kernel
theorem dX12_back_56 : decode cX12_back 56 = .ok (.iconst (-1), 1) := by decide +kernel
theorem dX12_back_57 : decode cX12_back 57 = .ok (.if_icmp .eq 51, 3) := by decide +kernel
theorem dX12_back_60 : decode cX12_back 60 = .ok (.aload_n 0, 1) := by decide +kernel
theorem dX12_back_61 : decode cX12_back 61 = .ok (.getfield 200, 3) := by decide +kernel
theorem dX12_back_64 : decode cX12_back 64 = .ok (.aload_n 0, 1) := by decide +kernel
theorem dX12_back_65 : decode cX12_back 65 = .ok (.getfield 135, 3) := by decide +kernel
theorem dX12_back_68 : decode cX12_back 68 = .ok (.iload 4, 2) := by decide +kernel
theorem dX12_back_70 : decode cX12_back 70 = .ok (.iaload, 1) := by decide +kernel
theorem dX12_back_71 : decode cX12_back 71 = .ok (.isub, 1) := by decide +kernel
theorem dX12_back_72 : decode cX12_back 72 = .ok (.aload_n 0, 1) := by decide +kernel
theorem dX12_back_73 : decode cX12_back 73 = .ok (.getfield 49, 3) := by decide +kernel
theorem dX12_back_76 : decode cX12_back 76 = .ok (.iconst 3, 1) := by decide +kernel
theorem dX12_back_77 : decode cX12_back 77 = .ok (.iaload, 1) := by decide +kernel
theorem dX12_back_78 : decode cX12_back 78 = .ok (.if_icmp .gt 30, 3) := by decide +kernel
theorem dX12_back_81 : decode cX12_back 81 = .ok (.iload_n 3, 1) := by decide +kernel
theorem dX12_back_82 : decode cX12_back 82 = .ok (.aload_n 0, 1) := by decide +kernel
theorem dX12_back_83 : decode cX12_back 83 = .ok (.getfield 120, 3) := by decide +kernel
theorem dX12_back_86 : decode cX12_back 86 = .ok (.iload 4, 2) := by decide +kernel
theorem dX12_back_88 : decode cX12_back 88 = .ok (.iaload, 1) := by decide +kernel
theorem dX12_back_89 : decode cX12_back 89 = .ok (.aload_n 0, 1) := by decide +kernel
theorem dX12_back_90 : decode cX12_back 90 = .ok (.getfield 123, 3) := by decide +kernel
theorem dX12_back_93 : decode cX12_back 93 = .ok (.iload 4, 2) := by decide +kernel
theorem dX12_back_95 : decode cX12_back 95 = .ok (.iaload, 1) := by decide +kernel
theorem dX12_back_96 : decode cX12_back 96 = .ok (.iadd, 1) := by decide +kernel
theorem dX12_back_97 : decode cX12_back 97 = .ok (.aload_n 0, 1) := by decide +kernel
theorem dX12_back_98 : decode cX12_back 98 = .ok (.getfield 129, 3) := by decide +kernel
theorem dX12_back_101 : decode cX12_back 101 = .ok (.iload 4, 2) := by decide +kernel
theorem dX12_back_103 : decode cX12_back 103 = .ok (.iaload, 1) := by decide +kernel
theorem dX12_back_104 : decode cX12_back 104 = .ok (.isub, 1) := by decide +kernel
theorem dX12_back_105 : decode cX12_back 105 = .ok (.if_icmp .le 5, 3) := by decide +kernel
theorem dX12_back_108 : decode cX12_back 108 = .ok (.iconst 0, 1) := by decide +kernel
theorem dX12_back_109 : decode cX12_back 109 = .ok (.ireturn, 1) := by decide +kernel
theorem dX12_back_110 : decode cX12_back 110 = .ok (.aload_n 0, 1) := by decide +kernel
theorem dX12_back_111 : decode cX12_back 111 = .ok (.getfield 123, 3) := by decide +kernel
theorem dX12_back_114 : decode cX12_back 114 = .ok (.iload 4, 2) := by decide +kernel
theorem dX12_back_116 : decode cX12_back 116 = .ok (.iaload, 1) := by decide +kernel
theorem dX12_back_117 : decode cX12_back 117 = .ok (.aload_n 0, 1) := by decide +kernel
theorem dX12_back_118 : decode cX12_back 118 = .ok (.getfield 132, 3) := by decide +kernel
theorem dX12_back_121 : decode cX12_back 121 = .ok (.iload 4, 2) := by decide +kernel
theorem dX12_back_123 : decode cX12_back 123 = .ok (.iaload, 1) := by decide +kernel
theorem dX12_back_124 : decode cX12_back 124 = .ok (.isub, 1) := by decide +kernel
theorem dX12_back_125 : decode cX12_back 125 = .ok (.iload_n 3, 1) := by decide +kernel
theorem dX12_back_126 : decode cX12_back 126 = .ok (.if_icmp .ge 21, 3) := by decide +kernel
theorem dX12_back_129 : decode cX12_back 129 = .ok (.aload_n 0, 1) := by decide +kernel
theorem dX12_back_130 : decode cX12_back 130 = .ok (.getfield 123, 3) := by decide +kernel
theorem dX12_back_133 : decode cX12_back 133 = .ok (.iload 4, 2) := by decide +kernel
theorem dX12_back_135 : decode cX12_back 135 = .ok (.iaload, 1) := by decide +kernel
theorem dX12_back_136 : decode cX12_back 136 = .ok (.aload_n 0, 1) := by decide +kernel
theorem dX12_back_137 : decode cX12_back 137 = .ok (.getfield 132, 3) := by decide +kernel
theorem dX12_back_140 : decode cX12_back 140 = .ok (.iload 4, 2) := by decide +kernel
theorem dX12_back_142 : decode cX12_back 142 = .ok (.iaload, 1) := by decide +kernel
theorem dX12_back_143 : decode cX12_back 143 = .ok (.isub, 1) := by decide +kernel
theorem dX12_back_144 : decode cX12_back 144 = .ok (.goto 4, 3) := by decide +kernel
theorem dX12_back_147 : decode cX12_back 147 = .ok (.iload_n 3, 1) := by decide +kernel
theorem dX12_back_148 : decode cX12_back 148 = .ok (.istore 5, 2) := by decide +kernel
theorem dX12_back_150 : decode cX12_back 150 = .ok (.iload 5, 2) := by decide +kernel
theorem dX12_back_152 : decode cX12_back 152 = .ok (.ifCond .le 20, 3) := by decide +kernel
theorem dX12_back_155 : decode cX12_back 155 = .ok (.aload_n 0, 1) := by decide +kernel
theorem dX12_back_156 : decode cX12_back 156 = .ok (.getfield 22, 3) := by decide +kernel
theorem dX12_back_159 : decode cX12_back 159 = .ok (.aload_n 0, 1) := by decide +kernel
theorem dX12_back_160 : decode cX12_back 160 = .ok (.getfield 138, 3) := by decide +kernel
theorem dX12_back_163 : decode cX12_back 163 = .ok (.iload 4, 2) := by decide +kernel
theorem dX12_back_165 : decode cX12_back 165 = .ok (.iaload, 1) := by decide +kernel
theorem dX12_back_166 : decode cX12_back 166 = .ok (.dup2, 1) := by decide +kernel
theorem dX12_back_167 : decode cX12_back 167 = .ok (.iaload, 1) := by decide +kernel
theorem dX12_back_168 : decode cX12_back 168 = .ok (.iload 5, 2) := by decide +kernel
theorem dX12_back_170 : decode cX12_back 170 = .ok (.iadd, 1) := by decide +kernel
theorem dX12_back_171 : decode cX12_back 171 = .ok (.iastore, 1) := by decide +kernel
theorem dX12_back_172 : decode cX12_back 172 = .ok (.aload_n 0, 1) := by decide +kernel
theorem dX12_back_173 : decode cX12_back 173 = .ok (.getfield 22, 3) := by decide +kernel
theorem dX12_back_176 : decode cX12_back 176 = .ok (.aload_n 0, 1) := by decide +kernel
theorem dX12_back_177 : decode cX12_back 177 = .ok (.getfield 111, 3) := by decide +kernel
theorem dX12_back_180 : decode cX12_back 180 = .ok (.iload 4, 2) := by decide +kernel
theorem dX12_back_182 : decode cX12_back 182 = .ok (.iaload, 1) := by decide +kernel
theorem dX12_back_183 : decode cX12_back 183 = .ok (.dup2, 1) := by decide +kernel
theorem dX12_back_184 : decode cX12_back 184 = .ok (.iaload, 1) := by decide +kernel
theorem dX12_back_185 : decode cX12_back 185 = .ok (.iload_n 3, 1) := by decide +kernel
theorem dX12_back_186 : decode cX12_back 186 = .ok (.iload 5, 2) := by decide +kernel
theorem dX12_back_188 : decode cX12_back 188 = .ok (.isub, 1) := by decide +kernel
theorem dX12_back_189 : decode cX12_back 189 = .ok (.iadd, 1) := by decide +kernel
theorem dX12_back_190 : decode cX12_back 190 = .ok (.iastore, 1) := by decide +kernel
theorem dX12_back_191 : decode cX12_back 191 = .ok (.aload_n 0, 1) := by decide +kernel
theorem dX12_back_192 : decode cX12_back 192 = .ok (.getfield 132, 3) := by decide +kernel
theorem dX12_back_195 : decode cX12_back 195 = .ok (.iload 4, 2) := by decide +kernel
theorem dX12_back_197 : decode cX12_back 197 = .ok (.dup2, 1) := by decide +kernel
theorem dX12_back_198 : decode cX12_back 198 = .ok (.iaload, 1) := by decide +kernel
theorem dX12_back_199 : decode cX12_back 199 = .ok (.iload 5, 2) := by decide +kernel
theorem dX12_back_201 : decode cX12_back 201 = .ok (.iadd, 1) := by decide +kernel
theorem dX12_back_202 : decode cX12_back 202 = .ok (.iastore, 1) := by decide +kernel
theorem dX12_back_203 : decode cX12_back 203 = .ok (.aload_n 0, 1) := by decide +kernel
theorem dX12_back_204 : decode cX12_back 204 = .ok (.getfield 129, 3) := by decide +kernel
theorem dX12_back_207 : decode cX12_back 207 = .ok (.iload 4, 2) := by decide +kernel
theorem dX12_back_209 : decode cX12_back 209 = .ok (.dup2, 1) := by decide +kernel
theorem dX12_back_210 : decode cX12_back 210 = .ok (.iaload, 1) := by decide +kernel
theorem dX12_back_211 : decode cX12_back 211 = .ok (.iload_n 3, 1) := by decide +kernel
theorem dX12_back_212 : decode cX12_back 212 = .ok (.iadd, 1) := by decide +kernel
theorem dX12_back_213 : decode cX12_back 213 = .ok (.iastore, 1) := by decide +kernel
theorem dX12_back_214 : decode cX12_back 214 = .ok (.aload_n 0, 1) := by decide +kernel
theorem dX12_back_215 : decode cX12_back 215 = .ok (.getfield 102, 3) := by decide +kernel
theorem dX12_back_218 : decode cX12_back 218 = .ok (.iload_n 1, 1) := by decide +kernel
theorem dX12_back_219 : decode cX12_back 219 = .ok (.dup2, 1) := by decide +kernel
theorem dX12_back_220 : decode cX12_back 220 = .ok (.iaload, 1) := by decide +kernel
theorem dX12_back_221 : decode cX12_back 221 = .ok (.iload_n 3, 1) := by decide +kernel
theorem dX12_back_222 : decode cX12_back 222 = .ok (.aload_n 0, 1) := by decide +kernel
theorem dX12_back_223 : decode cX12_back 223 = .ok (.getfield 117, 3) := by decide +kernel
theorem dX12_back_226 : decode cX12_back 226 = .ok (.iload 4, 2) := by decide +kernel
theorem dX12_back_228 : decode cX12_back 228 = .ok (.iaload, 1) := by decide +kernel
theorem dX12_back_229 : decode cX12_back 229 = .ok (.imul, 1) := by decide +kernel
theorem dX12_back_230 : decode cX12_back 230 = .ok (.iadd, 1) := by decide +kernel
theorem dX12_back_231 : decode cX12_back 231 = .ok (.iastore, 1) := by decide +kernel
theorem dX12_back_232 : decode cX12_back 232 = .ok (.iconst 1, 1) := by decide +kernel
theorem dX12_back_233 : decode cX12_back 233 = .ok (.ireturn, 1) := by decide +kernel
set_option maxRecDepth 20000 in
theorem glX12_sending_0 : GoodIn wsX12_sending ([.fieldLink RX12 342 "PostHouseModel" "sendings" "I", .fieldLink RX12 165 "PostHouseModel" "thrown" "I", .fieldLink RX12 141 "PostHouseModel" "sendingOrder" "[I", .fieldLink RX12 144 "PostHouseModel" "sendingDay" "[I", .fieldLink RX12 147 "PostHouseModel" "sendingPieces" "[I", .fieldLink RX12 150 "PostHouseModel" "sendingParcels" "[I", .methodLink RX12 185 yX12_isIn, .static yX12_isIn, .initialized RX12, .code yX12_isIn cX12_isIn 3 (some .boolean)]) := goodIn_sub (fun _ h => List.mem_cons_of_mem _ (List.mem_append_left _ (h))) (by decide +kernel)
set_option maxRecDepth 20000 in
theorem ggX12_sending_X12_isIn : GoodIn wsX12_sending wsX12_isIn := goodIn_c (glX12_sending_0 _ (List.mem_of_getElem? (i := 9) rfl)) (goodIn_n)
set_option maxRecDepth 20000 in
theorem gX12_sending_X12_isIn : GoodIn wsX12_sending (va_wsS RX12 185 yX12_isIn wsX12_isIn) := goodIn_app (goodIn_of _ (by decide +kernel)) ggX12_sending_X12_isIn
theorem dX12_sending_0 : decode cX12_sending 0 = .ok (.aload_n 0, 1) := by decide +kernel
theorem dX12_sending_1 : decode cX12_sending 1 = .ok (.iload_n 1, 1) := by decide +kernel
theorem dX12_sending_2 : decode cX12_sending 2 = .ok (.ifCond .lt 11, 3) := by decide +kernel
theorem dX12_sending_5 : decode cX12_sending 5 = .ok (.iload_n 1, 1) := by decide +kernel
theorem dX12_sending_6 : decode cX12_sending 6 = .ok (.aload_n 0, 1) := by decide +kernel
theorem dX12_sending_7 : decode cX12_sending 7 = .ok (.getfield 342, 3) := by decide +kernel
theorem dX12_sending_10 : decode cX12_sending 10 = .ok (.if_icmp .lt 7, 3) := by decide +kernel
theorem dX12_sending_13 : decode cX12_sending 13 = .ok (.iconst 1, 1) := by decide +kernel
theorem dX12_sending_14 : decode cX12_sending 14 = .ok (.goto 17, 3) := by decide +kernel
theorem dX12_sending_17 : decode cX12_sending 17 = .ok (.iload_n 2, 1) := by decide +kernel
theorem dX12_sending_18 : decode cX12_sending 18 = .ok (.iconst 0, 1) := by decide +kernel
theorem dX12_sending_19 : decode cX12_sending 19 = .ok (.iconst 3, 1) := by decide +kernel
theorem dX12_sending_20 : decode cX12_sending 20 = .ok (.invokestatic 185, 3) := by decide +kernel
theorem dX12_sending_23 : decode cX12_sending 23 = .ok (.ifCond .ne 7, 3) := by decide +kernel
theorem dX12_sending_26 : decode cX12_sending 26 = .ok (.iconst 2, 1) := by decide +kernel
theorem dX12_sending_27 : decode cX12_sending 27 = .ok (.goto 4, 3) := by decide +kernel
theorem dX12_sending_30 : decode cX12_sending 30 = .ok (.iconst 0, 1) := by decide +kernel
theorem dX12_sending_31 : decode cX12_sending 31 = .ok (.putfield 165, 3) := by decide +kernel
theorem dX12_sending_34 : decode cX12_sending 34 = .ok (.aload_n 0, 1) := by decide +kernel
theorem dX12_sending_35 : decode cX12_sending 35 = .ok (.getfield 165, 3) := by decide +kernel
theorem dX12_sending_38 : decode cX12_sending 38 = .ok (.ifCond .le 5, 3) := by decide +kernel
theorem dX12_sending_41 : decode cX12_sending 41 = .ok (.iconst 0, 1) := by decide +kernel
theorem dX12_sending_42 : decode cX12_sending 42 = .ok (.ireturn, 1) := by decide +kernel
theorem dX12_sending_43 : decode cX12_sending 43 = .ok (.iload_n 2, 1) := by decide +kernel
theorem dX12_sending_44 : decode cX12_sending 44 = .ok (.ifCond .ne 12, 3) := by decide +kernel
theorem dX12_sending_47 : decode cX12_sending 47 = .ok (.aload_n 0, 1) := by decide +kernel
theorem dX12_sending_48 : decode cX12_sending 48 = .ok (.getfield 141, 3) := by decide +kernel
theorem dX12_sending_51 : decode cX12_sending 51 = .ok (.iload_n 1, 1) := by decide +kernel
theorem dX12_sending_52 : decode cX12_sending 52 = .ok (.iaload, 1) := by decide +kernel
theorem dX12_sending_53 : decode cX12_sending 53 = .ok (.goto 37, 3) := by decide +kernel
theorem dX12_sending_56 : decode cX12_sending 56 = .ok (.iload_n 2, 1) := by decide +kernel
theorem dX12_sending_57 : decode cX12_sending 57 = .ok (.iconst 1, 1) := by decide +kernel
theorem dX12_sending_58 : decode cX12_sending 58 = .ok (.if_icmp .ne 12, 3) := by decide +kernel
theorem dX12_sending_61 : decode cX12_sending 61 = .ok (.aload_n 0, 1) := by decide +kernel
theorem dX12_sending_62 : decode cX12_sending 62 = .ok (.getfield 144, 3) := by decide +kernel
theorem dX12_sending_65 : decode cX12_sending 65 = .ok (.iload_n 1, 1) := by decide +kernel
theorem dX12_sending_66 : decode cX12_sending 66 = .ok (.iaload, 1) := by decide +kernel
theorem dX12_sending_67 : decode cX12_sending 67 = .ok (.goto 23, 3) := by decide +kernel
theorem dX12_sending_70 : decode cX12_sending 70 = .ok (.iload_n 2, 1) := by decide +kernel
theorem dX12_sending_71 : decode cX12_sending 71 = .ok (.iconst 2, 1) := by decide +kernel
theorem dX12_sending_72 : decode cX12_sending 72 = .ok (.if_icmp .ne 12, 3) := by decide +kernel
theorem dX12_sending_75 : decode cX12_sending 75 = .ok (.aload_n 0, 1) := by decide +kernel
theorem dX12_sending_76 : decode cX12_sending 76 = .ok (.getfield 147, 3) := by decide +kernel
theorem dX12_sending_79 : decode cX12_sending 79 = .ok (.iload_n 1, 1) := by decide +kernel
theorem dX12_sending_80 : decode cX12_sending 80 = .ok (.iaload, 1) := by decide +kernel
theorem dX12_sending_81 : decode cX12_sending 81 = .ok (.goto 9, 3) := by decide +kernel
theorem dX12_sending_84 : decode cX12_sending 84 = .ok (.aload_n 0, 1) := by decide +kernel
theorem dX12_sending_85 : decode cX12_sending 85 = .ok (.getfield 150, 3) := by decide +kernel
theorem dX12_sending_88 : decode cX12_sending 88 = .ok (.iload_n 1, 1) := by decide +kernel
theorem dX12_sending_89 : decode cX12_sending 89 = .ok (.iaload, 1) := by decide +kernel
theorem dX12_sending_90 : decode cX12_sending 90 = .ok (.ireturn, 1) := by decide +kernel
set_option maxRecDepth 20000 in
theorem glX12_pick_0 : GoodIn wsX12_pick ([.fieldLink RX12 165 "PostHouseModel" "thrown" "I", .fieldLink RX12 351 "PostHouseModel" "picks" "I", .fieldLink RX12 159 "PostHouseModel" "pick" "[I", .methodLink RX12 193 yX12_isThing, .instanceMethod yX12_isThing, .selects RX12 yX12_isThing yX12_isThing, .initialized RX12, .code yX12_isThing cX12_isThing 2 (some .boolean), .fieldLink RX12 168 "PostHouseModel" "things" "I"]) := goodIn_sub (fun _ h => List.mem_cons_of_mem _ (List.mem_append_left _ (h))) (by decide +kernel)
set_option maxRecDepth 20000 in
theorem glX12_pick_1 : GoodIn wsX12_pick (wsX120) := goodIn_sub (fun _ h => List.mem_cons_of_mem _ (List.mem_append_right _ (h))) ag_wsX120
set_option maxRecDepth 20000 in
theorem ggX12_pick_X12_isThing : GoodIn wsX12_pick wsX12_isThing := goodIn_c (glX12_pick_0 _ (List.mem_of_getElem? (i := 7) rfl)) (goodIn_app (goodIn_c (glX12_pick_0 _ (List.mem_of_getElem? (i := 8) rfl)) (goodIn_n)) (glX12_pick_1))
set_option maxRecDepth 20000 in
theorem gX12_pick_X12_isThing : GoodIn wsX12_pick (wsV RX12 193 RX12 yX12_isThing wsX12_isThing) := goodIn_app (goodIn_of _ (by decide +kernel)) ggX12_pick_X12_isThing
theorem dX12_pick_0 : decode cX12_pick 0 = .ok (.aload_n 0, 1) := by decide +kernel
theorem dX12_pick_1 : decode cX12_pick 1 = .ok (.aload_n 0, 1) := by decide +kernel
theorem dX12_pick_2 : decode cX12_pick 2 = .ok (.iload_n 1, 1) := by decide +kernel
theorem dX12_pick_3 : decode cX12_pick 3 = .ok (.invokevirtual 193, 3) := by decide +kernel
theorem dX12_pick_6 : decode cX12_pick 6 = .ok (.ifCond .ne 7, 3) := by decide +kernel
theorem dX12_pick_9 : decode cX12_pick 9 = .ok (.iconst 1, 1) := by decide +kernel
theorem dX12_pick_10 : decode cX12_pick 10 = .ok (.goto 4, 3) := by decide +kernel
theorem dX12_pick_13 : decode cX12_pick 13 = .ok (.iconst 0, 1) := by decide +kernel
theorem dX12_pick_14 : decode cX12_pick 14 = .ok (.putfield 165, 3) := by decide +kernel
theorem dX12_pick_17 : decode cX12_pick 17 = .ok (.aload_n 0, 1) := by decide +kernel
theorem dX12_pick_18 : decode cX12_pick 18 = .ok (.getfield 165, 3) := by decide +kernel
theorem dX12_pick_21 : decode cX12_pick 21 = .ok (.ifCond .le 5, 3) := by decide +kernel
theorem dX12_pick_24 : decode cX12_pick 24 = .ok (.iconst 0, 1) := by decide +kernel
theorem dX12_pick_25 : decode cX12_pick 25 = .ok (.ireturn, 1) := by decide +kernel
theorem dX12_pick_26 : decode cX12_pick 26 = .ok (.iconst 0, 1) := by decide +kernel
theorem dX12_pick_27 : decode cX12_pick 27 = .ok (.istore_n 2, 1) := by decide +kernel
theorem dX12_pick_28 : decode cX12_pick 28 = .ok (.iload_n 2, 1) := by decide +kernel
theorem dX12_pick_29 : decode cX12_pick 29 = .ok (.aload_n 0, 1) := by decide +kernel
theorem dX12_pick_30 : decode cX12_pick 30 = .ok (.getfield 351, 3) := by decide +kernel
theorem dX12_pick_33 : decode cX12_pick 33 = .ok (.if_icmp .ge 21, 3) := by decide +kernel
theorem dX12_pick_36 : decode cX12_pick 36 = .ok (.aload_n 0, 1) := by decide +kernel
theorem dX12_pick_37 : decode cX12_pick 37 = .ok (.getfield 159, 3) := by decide +kernel
theorem dX12_pick_40 : decode cX12_pick 40 = .ok (.iload_n 2, 1) := by decide +kernel
theorem dX12_pick_41 : decode cX12_pick 41 = .ok (.iaload, 1) := by decide +kernel
theorem dX12_pick_42 : decode cX12_pick 42 = .ok (.iload_n 1, 1) := by decide +kernel
theorem dX12_pick_43 : decode cX12_pick 43 = .ok (.if_icmp .ne 5, 3) := by decide +kernel
theorem dX12_pick_46 : decode cX12_pick 46 = .ok (.iconst (-1), 1) := by decide +kernel
theorem dX12_pick_47 : decode cX12_pick 47 = .ok (.ireturn, 1) := by decide +kernel
theorem dX12_pick_48 : decode cX12_pick 48 = .ok (.iinc 2 1, 3) := by decide +kernel
theorem dX12_pick_51 : decode cX12_pick 51 = .ok (.goto (-23), 3) := by decide +kernel
theorem dX12_pick_54 : decode cX12_pick 54 = .ok (.aload_n 0, 1) := by decide +kernel
theorem dX12_pick_55 : decode cX12_pick 55 = .ok (.getfield 351, 3) := by decide +kernel
theorem dX12_pick_58 : decode cX12_pick 58 = .ok (.bipush 10, 2) := by decide +kernel
theorem dX12_pick_60 : decode cX12_pick 60 = .ok (.if_icmp .ne 5, 3) := by decide +kernel
theorem dX12_pick_63 : decode cX12_pick 63 = .ok (.iconst (-1), 1) := by decide +kernel
theorem dX12_pick_64 : decode cX12_pick 64 = .ok (.ireturn, 1) := by decide +kernel
theorem dX12_pick_65 : decode cX12_pick 65 = .ok (.aload_n 0, 1) := by decide +kernel
theorem dX12_pick_66 : decode cX12_pick 66 = .ok (.getfield 159, 3) := by decide +kernel
theorem dX12_pick_69 : decode cX12_pick 69 = .ok (.aload_n 0, 1) := by decide +kernel
theorem dX12_pick_70 : decode cX12_pick 70 = .ok (.getfield 351, 3) := by decide +kernel
theorem dX12_pick_73 : decode cX12_pick 73 = .ok (.iload_n 1, 1) := by decide +kernel
theorem dX12_pick_74 : decode cX12_pick 74 = .ok (.iastore, 1) := by decide +kernel
theorem dX12_pick_75 : decode cX12_pick 75 = .ok (.aload_n 0, 1) := by decide +kernel
theorem dX12_pick_76 : decode cX12_pick 76 = .ok (.dup, 1) := by decide +kernel
theorem dX12_pick_77 : decode cX12_pick 77 = .ok (.getfield 351, 3) := by decide +kernel
theorem dX12_pick_80 : decode cX12_pick 80 = .ok (.iconst 1, 1) := by decide +kernel
theorem dX12_pick_81 : decode cX12_pick 81 = .ok (.iadd, 1) := by decide +kernel
theorem dX12_pick_82 : decode cX12_pick 82 = .ok (.putfield 351, 3) := by decide +kernel
theorem dX12_pick_85 : decode cX12_pick 85 = .ok (.aload_n 0, 1) := by decide +kernel
theorem dX12_pick_86 : decode cX12_pick 86 = .ok (.getfield 351, 3) := by decide +kernel
theorem dX12_pick_89 : decode cX12_pick 89 = .ok (.ireturn, 1) := by decide +kernel
theorem dX12_far_0 : decode cX12_far 0 = .ok (.iload_n 0, 1) := by decide +kernel
theorem dX12_far_1 : decode cX12_far 1 = .ok (.iload_n 2, 1) := by decide +kernel
theorem dX12_far_2 : decode cX12_far 2 = .ok (.if_icmp .le 9, 3) := by decide +kernel
theorem dX12_far_5 : decode cX12_far 5 = .ok (.iload_n 0, 1) := by decide +kernel
theorem dX12_far_6 : decode cX12_far 6 = .ok (.iload_n 2, 1) := by decide +kernel
theorem dX12_far_7 : decode cX12_far 7 = .ok (.isub, 1) := by decide +kernel
theorem dX12_far_8 : decode cX12_far 8 = .ok (.goto 6, 3) := by decide +kernel
theorem dX12_far_11 : decode cX12_far 11 = .ok (.iload_n 2, 1) := by decide +kernel
theorem dX12_far_12 : decode cX12_far 12 = .ok (.iload_n 0, 1) := by decide +kernel
theorem dX12_far_13 : decode cX12_far 13 = .ok (.isub, 1) := by decide +kernel
theorem dX12_far_14 : decode cX12_far 14 = .ok (.istore 4, 2) := by decide +kernel
theorem dX12_far_16 : decode cX12_far 16 = .ok (.iload 4, 2) := by decide +kernel
theorem dX12_far_18 : decode cX12_far 18 = .ok (.ifCond .ne 18, 3) := by decide +kernel
theorem dX12_far_21 : decode cX12_far 21 = .ok (.iload_n 1, 1) := by decide +kernel
theorem dX12_far_22 : decode cX12_far 22 = .ok (.iload_n 3, 1) := by decide +kernel
theorem dX12_far_23 : decode cX12_far 23 = .ok (.if_icmp .le 9, 3) := by decide +kernel
theorem dX12_far_26 : decode cX12_far 26 = .ok (.iload_n 1, 1) := by decide +kernel
theorem dX12_far_27 : decode cX12_far 27 = .ok (.iload_n 3, 1) := by decide +kernel
theorem dX12_far_28 : decode cX12_far 28 = .ok (.isub, 1) := by decide +kernel
theorem dX12_far_29 : decode cX12_far 29 = .ok (.goto 6, 3) := by decide +kernel
theorem dX12_far_32 : decode cX12_far 32 = .ok (.iload_n 3, 1) := by decide +kernel
theorem dX12_far_33 : decode cX12_far 33 = .ok (.iload_n 1, 1) := by decide +kernel
theorem dX12_far_34 : decode cX12_far 34 = .ok (.isub, 1) := by decide +kernel
theorem dX12_far_35 : decode cX12_far 35 = .ok (.ireturn, 1) := by decide +kernel
theorem dX12_far_36 : decode cX12_far 36 = .ok (.iload_n 1, 1) := by decide +kernel
theorem dX12_far_37 : decode cX12_far 37 = .ok (.iload_n 3, 1) := by decide +kernel
theorem dX12_far_38 : decode cX12_far 38 = .ok (.iadd, 1) := by decide +kernel
theorem dX12_far_39 : decode cX12_far 39 = .ok (.istore 5, 2) := by decide +kernel
theorem dX12_far_41 : decode cX12_far 41 = .ok (.bipush 42, 2) := by decide +kernel
theorem dX12_far_43 : decode cX12_far 43 = .ok (.iload_n 1, 1) := by decide +kernel
theorem dX12_far_44 : decode cX12_far 44 = .ok (.isub, 1) := by decide +kernel
theorem dX12_far_45 : decode cX12_far 45 = .ok (.iload_n 3, 1) := by decide +kernel
theorem dX12_far_46 : decode cX12_far 46 = .ok (.isub, 1) := by decide +kernel
theorem dX12_far_47 : decode cX12_far 47 = .ok (.istore 6, 2) := by decide +kernel
theorem dX12_far_49 : decode cX12_far 49 = .ok (.bipush 6, 2) := by decide +kernel
theorem dX12_far_51 : decode cX12_far 51 = .ok (.iload 4, 2) := by decide +kernel
theorem dX12_far_53 : decode cX12_far 53 = .ok (.imul, 1) := by decide +kernel
theorem dX12_far_54 : decode cX12_far 54 = .ok (.iload 5, 2) := by decide +kernel
theorem dX12_far_56 : decode cX12_far 56 = .ok (.iload 6, 2) := by decide +kernel
theorem dX12_far_58 : decode cX12_far 58 = .ok (.if_icmp .ge 8, 3) := by decide +kernel
theorem dX12_far_61 : decode cX12_far 61 = .ok (.iload 5, 2) := by decide +kernel
theorem dX12_far_63 : decode cX12_far 63 = .ok (.goto 5, 3) := by decide +kernel
theorem dX12_far_66 : decode cX12_far 66 = .ok (.iload 6, 2) := by decide +kernel
theorem dX12_far_68 : decode cX12_far 68 = .ok (.iadd, 1) := by decide +kernel
theorem dX12_far_69 : decode cX12_far 69 = .ok (.ireturn, 1) := by decide +kernel
set_option maxRecDepth 20000 in
theorem glX12_between_0 : GoodIn wsX12_between ([.fieldLink RX12 16 "PostHouseModel" "street" "[I", .fieldLink RX12 159 "PostHouseModel" "pick" "[I", .fieldLink RX12 19 "PostHouseModel" "place" "[I", .methodLink RX12 354 yX12_far, .static yX12_far, .initialized RX12, .code yX12_far cX12_far 7 (some .int)]) := goodIn_sub (fun _ h => List.mem_cons_of_mem _ (List.mem_append_left _ (h))) (by decide +kernel)
set_option maxRecDepth 20000 in
theorem ggX12_between_X12_far : GoodIn wsX12_between wsX12_far := goodIn_c (glX12_between_0 _ (List.mem_of_getElem? (i := 6) rfl)) (goodIn_n)
set_option maxRecDepth 20000 in
theorem gX12_between_X12_far : GoodIn wsX12_between (va_wsS RX12 354 yX12_far wsX12_far) := goodIn_app (goodIn_of _ (by decide +kernel)) ggX12_between_X12_far
theorem dX12_between_0 : decode cX12_between 0 = .ok (.aload_n 0, 1) := by decide +kernel
theorem dX12_between_1 : decode cX12_between 1 = .ok (.getfield 16, 3) := by decide +kernel
theorem dX12_between_4 : decode cX12_between 4 = .ok (.aload_n 0, 1) := by decide +kernel
theorem dX12_between_5 : decode cX12_between 5 = .ok (.getfield 159, 3) := by decide +kernel
theorem dX12_between_8 : decode cX12_between 8 = .ok (.iload_n 1, 1) := by decide +kernel
theorem dX12_between_9 : decode cX12_between 9 = .ok (.iaload, 1) := by decide +kernel
theorem dX12_between_10 : decode cX12_between 10 = .ok (.iaload, 1) := by decide +kernel
theorem dX12_between_11 : decode cX12_between 11 = .ok (.aload_n 0, 1) := by decide +kernel
theorem dX12_between_12 : decode cX12_between 12 = .ok (.getfield 19, 3) := by decide +kernel
theorem dX12_between_15 : decode cX12_between 15 = .ok (.aload_n 0, 1) := by decide +kernel
theorem dX12_between_16 : decode cX12_between 16 = .ok (.getfield 159, 3) := by decide +kernel
theorem dX12_between_19 : decode cX12_between 19 = .ok (.iload_n 1, 1) := by decide +kernel
theorem dX12_between_20 : decode cX12_between 20 = .ok (.iaload, 1) := by decide +kernel
theorem dX12_between_21 : decode cX12_between 21 = .ok (.iaload, 1) := by decide +kernel
theorem dX12_between_22 : decode cX12_between 22 = .ok (.aload_n 0, 1) := by decide +kernel
theorem dX12_between_23 : decode cX12_between 23 = .ok (.getfield 16, 3) := by decide +kernel
theorem dX12_between_26 : decode cX12_between 26 = .ok (.aload_n 0, 1) := by decide +kernel
theorem dX12_between_27 : decode cX12_between 27 = .ok (.getfield 159, 3) := by decide +kernel
theorem dX12_between_30 : decode cX12_between 30 = .ok (.iload_n 2, 1) := by decide +kernel
theorem dX12_between_31 : decode cX12_between 31 = .ok (.iaload, 1) := by decide +kernel
theorem dX12_between_32 : decode cX12_between 32 = .ok (.iaload, 1) := by decide +kernel
theorem dX12_between_33 : decode cX12_between 33 = .ok (.aload_n 0, 1) := by decide +kernel
theorem dX12_between_34 : decode cX12_between 34 = .ok (.getfield 19, 3) := by decide +kernel
theorem dX12_between_37 : decode cX12_between 37 = .ok (.aload_n 0, 1) := by decide +kernel
theorem dX12_between_38 : decode cX12_between 38 = .ok (.getfield 159, 3) := by decide +kernel
theorem dX12_between_41 : decode cX12_between 41 = .ok (.iload_n 2, 1) := by decide +kernel
theorem dX12_between_42 : decode cX12_between 42 = .ok (.iaload, 1) := by decide +kernel
theorem dX12_between_43 : decode cX12_between 43 = .ok (.iaload, 1) := by decide +kernel
theorem dX12_between_44 : decode cX12_between 44 = .ok (.invokestatic 354, 3) := by decide +kernel
theorem dX12_between_47 : decode cX12_between 47 = .ok (.ireturn, 1) := by decide +kernel
set_option maxRecDepth 20000 in
theorem glX12_home_0 : GoodIn wsX12_home ([.fieldLink RX12 16 "PostHouseModel" "street" "[I", .fieldLink RX12 159 "PostHouseModel" "pick" "[I", .fieldLink RX12 19 "PostHouseModel" "place" "[I", .methodLink RX12 354 yX12_far, .static yX12_far, .initialized RX12, .code yX12_far cX12_far 7 (some .int)]) := goodIn_sub (fun _ h => List.mem_cons_of_mem _ (List.mem_append_left _ (h))) (by decide +kernel)
set_option maxRecDepth 20000 in
theorem ggX12_home_X12_far : GoodIn wsX12_home wsX12_far := goodIn_c (glX12_home_0 _ (List.mem_of_getElem? (i := 6) rfl)) (goodIn_n)
set_option maxRecDepth 20000 in
theorem gX12_home_X12_far : GoodIn wsX12_home (va_wsS RX12 354 yX12_far wsX12_far) := goodIn_app (goodIn_of _ (by decide +kernel)) ggX12_home_X12_far
theorem dX12_home_0 : decode cX12_home 0 = .ok (.iconst 0, 1) := by decide +kernel
theorem dX12_home_1 : decode cX12_home 1 = .ok (.iconst 0, 1) := by decide +kernel
theorem dX12_home_2 : decode cX12_home 2 = .ok (.aload_n 0, 1) := by decide +kernel
theorem dX12_home_3 : decode cX12_home 3 = .ok (.getfield 16, 3) := by decide +kernel
theorem dX12_home_6 : decode cX12_home 6 = .ok (.aload_n 0, 1) := by decide +kernel
theorem dX12_home_7 : decode cX12_home 7 = .ok (.getfield 159, 3) := by decide +kernel
theorem dX12_home_10 : decode cX12_home 10 = .ok (.iload_n 1, 1) := by decide +kernel
theorem dX12_home_11 : decode cX12_home 11 = .ok (.iaload, 1) := by decide +kernel
theorem dX12_home_12 : decode cX12_home 12 = .ok (.iaload, 1) := by decide +kernel
theorem dX12_home_13 : decode cX12_home 13 = .ok (.aload_n 0, 1) := by decide +kernel
theorem dX12_home_14 : decode cX12_home 14 = .ok (.getfield 19, 3) := by decide +kernel
theorem dX12_home_17 : decode cX12_home 17 = .ok (.aload_n 0, 1) := by decide +kernel
theorem dX12_home_18 : decode cX12_home 18 = .ok (.getfield 159, 3) := by decide +kernel
theorem dX12_home_21 : decode cX12_home 21 = .ok (.iload_n 1, 1) := by decide +kernel
theorem dX12_home_22 : decode cX12_home 22 = .ok (.iaload, 1) := by decide +kernel
theorem dX12_home_23 : decode cX12_home 23 = .ok (.iaload, 1) := by decide +kernel
theorem dX12_home_24 : decode cX12_home 24 = .ok (.invokestatic 354, 3) := by decide +kernel
theorem dX12_home_27 : decode cX12_home 27 = .ok (.ireturn, 1) := by decide +kernel
set_option maxRecDepth 20000 in
theorem glX12_walk_0 : GoodIn wsX12_walk ([.fieldLink RX12 165 "PostHouseModel" "thrown" "I", .fieldLink RX12 351 "PostHouseModel" "picks" "I", .fieldLink RX12 162 "PostHouseModel" "way" "[I", .methodLink RX12 358 yX12_home, .instanceMethod yX12_home, .selects RX12 yX12_home yX12_home, .initialized RX12, .code yX12_home cX12_home 2 (some .int), .fieldLink RX12 16 "PostHouseModel" "street" "[I", .fieldLink RX12 159 "PostHouseModel" "pick" "[I", .fieldLink RX12 19 "PostHouseModel" "place" "[I", .methodLink RX12 354 yX12_far, .static yX12_far, .code yX12_far cX12_far 7 (some .int), .methodLink RX12 361 yX12_between, .instanceMethod yX12_between, .selects RX12 yX12_between yX12_between, .code yX12_between cX12_between 3 (some .int)]) := goodIn_sub (fun _ h => List.mem_cons_of_mem _ (List.mem_append_left _ (h))) (by decide +kernel)
set_option maxRecDepth 20000 in
theorem glX12_walk_1 : GoodIn wsX12_walk (wsX120) := goodIn_sub (fun _ h => List.mem_cons_of_mem _ (List.mem_append_right _ (h))) ag_wsX120
set_option maxRecDepth 20000 in
theorem ggX12_walk_X12_home : GoodIn wsX12_walk wsX12_home := goodIn_c (glX12_walk_0 _ (List.mem_of_getElem? (i := 7) rfl)) (goodIn_app (goodIn_c (glX12_walk_0 _ (List.mem_of_getElem? (i := 8) rfl)) (goodIn_c (glX12_walk_0 _ (List.mem_of_getElem? (i := 9) rfl)) (goodIn_c (glX12_walk_0 _ (List.mem_of_getElem? (i := 10) rfl)) (goodIn_c (glX12_walk_0 _ (List.mem_of_getElem? (i := 11) rfl)) (goodIn_c (glX12_walk_0 _ (List.mem_of_getElem? (i := 12) rfl)) (goodIn_c (glX12_walk_0 _ (List.mem_of_getElem? (i := 6) rfl)) (goodIn_c (glX12_walk_0 _ (List.mem_of_getElem? (i := 13) rfl)) (goodIn_n)))))))) (glX12_walk_1))
set_option maxRecDepth 20000 in
theorem gX12_walk_X12_home : GoodIn wsX12_walk (wsV RX12 358 RX12 yX12_home wsX12_home) := goodIn_app (goodIn_of _ (by decide +kernel)) ggX12_walk_X12_home
set_option maxRecDepth 20000 in
theorem ggX12_walk_X12_between : GoodIn wsX12_walk wsX12_between := goodIn_c (glX12_walk_0 _ (List.mem_of_getElem? (i := 17) rfl)) (goodIn_app (goodIn_c (glX12_walk_0 _ (List.mem_of_getElem? (i := 8) rfl)) (goodIn_c (glX12_walk_0 _ (List.mem_of_getElem? (i := 9) rfl)) (goodIn_c (glX12_walk_0 _ (List.mem_of_getElem? (i := 10) rfl)) (goodIn_c (glX12_walk_0 _ (List.mem_of_getElem? (i := 11) rfl)) (goodIn_c (glX12_walk_0 _ (List.mem_of_getElem? (i := 12) rfl)) (goodIn_c (glX12_walk_0 _ (List.mem_of_getElem? (i := 6) rfl)) (goodIn_c (glX12_walk_0 _ (List.mem_of_getElem? (i := 13) rfl)) (goodIn_n)))))))) (glX12_walk_1))
set_option maxRecDepth 20000 in
theorem gX12_walk_X12_between : GoodIn wsX12_walk (wsV RX12 361 RX12 yX12_between wsX12_between) := goodIn_app (goodIn_of _ (by decide +kernel)) ggX12_walk_X12_between
theorem dX12_walk_0 : decode cX12_walk 0 = .ok (.aload_n 0, 1) := by decide +kernel
theorem dX12_walk_1 : decode cX12_walk 1 = .ok (.iconst 0, 1) := by decide +kernel
theorem dX12_walk_2 : decode cX12_walk 2 = .ok (.putfield 165, 3) := by decide +kernel
theorem dX12_walk_5 : decode cX12_walk 5 = .ok (.aload_n 0, 1) := by decide +kernel
theorem dX12_walk_6 : decode cX12_walk 6 = .ok (.getfield 351, 3) := by decide +kernel
theorem dX12_walk_9 : decode cX12_walk 9 = .ok (.istore_n 1, 1) := by decide +kernel
theorem dX12_walk_10 : decode cX12_walk 10 = .ok (.aload_n 0, 1) := by decide +kernel
theorem dX12_walk_11 : decode cX12_walk 11 = .ok (.iconst 0, 1) := by decide +kernel
theorem dX12_walk_12 : decode cX12_walk 12 = .ok (.putfield 351, 3) := by decide +kernel
theorem dX12_walk_15 : decode cX12_walk 15 = .ok (.iload_n 1, 1) := by decide +kernel
theorem dX12_walk_16 : decode cX12_walk 16 = .ok (.ifCond .ne 5, 3) := by decide +kernel
theorem dX12_walk_19 : decode cX12_walk 19 = .ok (.iconst 0, 1) := by decide +kernel
theorem dX12_walk_20 : decode cX12_walk 20 = .ok (.ireturn, 1) := by decide +kernel
theorem dX12_walk_21 : decode cX12_walk 21 = .ok (.iconst 1, 1) := by decide +kernel
theorem dX12_walk_22 : decode cX12_walk 22 = .ok (.istore_n 2, 1) := by decide +kernel
theorem dX12_walk_23 : decode cX12_walk 23 = .ok (.iload_n 2, 1) := by decide +kernel
theorem dX12_walk_24 : decode cX12_walk 24 = .ok (.iconst 1, 1) := by decide +kernel
theorem dX12_walk_25 : decode cX12_walk 25 = .ok (.iload_n 1, 1) := by decide +kernel
theorem dX12_walk_26 : decode cX12_walk 26 = .ok (.ishl, 1) := by decide +kernel
theorem dX12_walk_27 : decode cX12_walk 27 = .ok (.if_icmp .ge 138, 3) := by decide +kernel
theorem dX12_walk_30 : decode cX12_walk 30 = .ok (.iconst 0, 1) := by decide +kernel
theorem dX12_walk_31 : decode cX12_walk 31 = .ok (.istore_n 3, 1) := by decide +kernel
theorem dX12_walk_32 : decode cX12_walk 32 = .ok (.iload_n 3, 1) := by decide +kernel
theorem dX12_walk_33 : decode cX12_walk 33 = .ok (.iload_n 1, 1) := by decide +kernel
theorem dX12_walk_34 : decode cX12_walk 34 = .ok (.if_icmp .ge 125, 3) := by decide +kernel
theorem dX12_walk_37 : decode cX12_walk 37 = .ok (.iconst (-1), 1) := by decide +kernel
theorem dX12_walk_38 : decode cX12_walk 38 = .ok (.istore 4, 2) := by decide +kernel
theorem dX12_walk_40 : decode cX12_walk 40 = .ok (.iload_n 2, 1) := by decide +kernel
theorem dX12_walk_41 : decode cX12_walk 41 = .ok (.iconst 1, 1) := by decide +kernel
theorem dX12_walk_42 : decode cX12_walk 42 = .ok (.iload_n 3, 1) := by decide +kernel
theorem dX12_walk_43 : decode cX12_walk 43 = .ok (.ishl, 1) := by decide +kernel
theorem dX12_walk_44 : decode cX12_walk 44 = .ok (.iconst (-1), 1) := by decide +kernel
theorem dX12_walk_45 : decode cX12_walk 45 = .ok (.ixor, 1) := by decide +kernel
theorem dX12_walk_46 : decode cX12_walk 46 = .ok (.iand, 1) := by decide +kernel
theorem dX12_walk_47 : decode cX12_walk 47 = .ok (.istore 5, 2) := by decide +kernel
theorem dX12_walk_49 : decode cX12_walk 49 = .ok (.iload_n 2, 1) := by decide +kernel
theorem dX12_walk_50 : decode cX12_walk 50 = .ok (.iload_n 3, 1) := by decide +kernel
theorem dX12_walk_51 : decode cX12_walk 51 = .ok (.ishr, 1) := by decide +kernel
theorem dX12_walk_52 : decode cX12_walk 52 = .ok (.iconst 1, 1) := by decide +kernel
theorem dX12_walk_53 : decode cX12_walk 53 = .ok (.iand, 1) := by decide +kernel
theorem dX12_walk_54 : decode cX12_walk 54 = .ok (.ifCond .ne 6, 3) := by decide +kernel
theorem dX12_walk_57 : decode cX12_walk 57 = .ok (.goto 96, 3) := by decide +kernel
theorem dX12_walk_60 : decode cX12_walk 60 = .ok (.iload 5, 2) := by decide +kernel
theorem dX12_walk_62 : decode cX12_walk 62 = .ok (.ifCond .ne 10, 3) := by decide +kernel
theorem dX12_walk_65 : decode cX12_walk 65 = .ok (.aload_n 0, 1) := by decide +kernel
theorem dX12_walk_66 : decode cX12_walk 66 = .ok (.iload_n 3, 1) := by decide +kernel
theorem dX12_walk_67 : decode cX12_walk 67 = .ok (.invokevirtual 358, 3) := by decide +kernel
theorem dX12_walk_70 : decode cX12_walk 70 = .ok (.istore 4, 2) := by decide +kernel
theorem dX12_walk_72 : decode cX12_walk 72 = .ok (.iconst 0, 1) := by decide +kernel
theorem dX12_walk_73 : decode cX12_walk 73 = .ok (.istore 6, 2) := by decide +kernel
theorem dX12_walk_75 : decode cX12_walk 75 = .ok (.iload 6, 2) := by decide +kernel
theorem dX12_walk_77 : decode cX12_walk 77 = .ok (.iload_n 1, 1) := by decide +kernel
theorem dX12_walk_78 : decode cX12_walk 78 = .ok (.if_icmp .ge 62, 3) := by decide +kernel
theorem dX12_walk_81 : decode cX12_walk 81 = .ok (.iload 5, 2) := by decide +kernel
theorem dX12_walk_83 : decode cX12_walk 83 = .ok (.iload 6, 2) := by decide +kernel
theorem dX12_walk_85 : decode cX12_walk 85 = .ok (.ishr, 1) := by decide +kernel
theorem dX12_walk_86 : decode cX12_walk 86 = .ok (.iconst 1, 1) := by decide +kernel
theorem dX12_walk_87 : decode cX12_walk 87 = .ok (.iand, 1) := by decide +kernel
theorem dX12_walk_88 : decode cX12_walk 88 = .ok (.ifCond .ne 6, 3) := by decide +kernel
theorem dX12_walk_91 : decode cX12_walk 91 = .ok (.goto 43, 3) := by decide +kernel
theorem dX12_walk_94 : decode cX12_walk 94 = .ok (.aload_n 0, 1) := by decide +kernel
theorem dX12_walk_95 : decode cX12_walk 95 = .ok (.getfield 162, 3) := by decide +kernel
theorem dX12_walk_98 : decode cX12_walk 98 = .ok (.bipush 10, 2) := by decide +kernel
theorem dX12_walk_100 : decode cX12_walk 100 = .ok (.iload 5, 2) := by decide +kernel
theorem dX12_walk_102 : decode cX12_walk 102 = .ok (.imul, 1) := by decide +kernel
theorem dX12_walk_103 : decode cX12_walk 103 = .ok (.iload 6, 2) := by decide +kernel
theorem dX12_walk_105 : decode cX12_walk 105 = .ok (.iadd, 1) := by decide +kernel
theorem dX12_walk_106 : decode cX12_walk 106 = .ok (.iaload, 1) := by decide +kernel
theorem dX12_walk_107 : decode cX12_walk 107 = .ok (.aload_n 0, 1) := by decide +kernel
theorem dX12_walk_108 : decode cX12_walk 108 = .ok (.iload 6, 2) := by decide +kernel
theorem dX12_walk_110 : decode cX12_walk 110 = .ok (.iload_n 3, 1) := by decide +kernel
theorem dX12_walk_111 : decode cX12_walk 111 = .ok (.invokevirtual 361, 3) := by decide +kernel
theorem dX12_walk_114 : decode cX12_walk 114 = .ok (.iadd, 1) := by decide +kernel
theorem dX12_walk_115 : decode cX12_walk 115 = .ok (.istore 7, 2) := by decide +kernel
theorem dX12_walk_117 : decode cX12_walk 117 = .ok (.iload 4, 2) := by decide +kernel
theorem dX12_walk_119 : decode cX12_walk 119 = .ok (.iconst (-1), 1) := by decide +kernel
theorem dX12_walk_120 : decode cX12_walk 120 = .ok (.if_icmp .eq 10, 3) := by decide +kernel
theorem dX12_walk_123 : decode cX12_walk 123 = .ok (.iload 7, 2) := by decide +kernel
theorem dX12_walk_125 : decode cX12_walk 125 = .ok (.iload 4, 2) := by decide +kernel
theorem dX12_walk_127 : decode cX12_walk 127 = .ok (.if_icmp .ge 7, 3) := by decide +kernel
theorem dX12_walk_130 : decode cX12_walk 130 = .ok (.iload 7, 2) := by decide +kernel
theorem dX12_walk_132 : decode cX12_walk 132 = .ok (.istore 4, 2) := by decide +kernel
theorem dX12_walk_134 : decode cX12_walk 134 = .ok (.iinc 6 1, 3) := by decide +kernel
theorem dX12_walk_137 : decode cX12_walk 137 = .ok (.goto (-62), 3) := by decide +kernel
theorem dX12_walk_140 : decode cX12_walk 140 = .ok (.aload_n 0, 1) := by decide +kernel
theorem dX12_walk_141 : decode cX12_walk 141 = .ok (.getfield 162, 3) := by decide +kernel
theorem dX12_walk_144 : decode cX12_walk 144 = .ok (.bipush 10, 2) := by decide +kernel
theorem dX12_walk_146 : decode cX12_walk 146 = .ok (.iload_n 2, 1) := by decide +kernel
theorem dX12_walk_147 : decode cX12_walk 147 = .ok (.imul, 1) := by decide +kernel
theorem dX12_walk_148 : decode cX12_walk 148 = .ok (.iload_n 3, 1) := by decide +kernel
theorem dX12_walk_149 : decode cX12_walk 149 = .ok (.iadd, 1) := by decide +kernel
theorem dX12_walk_150 : decode cX12_walk 150 = .ok (.iload 4, 2) := by decide +kernel
theorem dX12_walk_152 : decode cX12_walk 152 = .ok (.iastore, 1) := by decide +kernel
theorem dX12_walk_153 : decode cX12_walk 153 = .ok (.iinc 3 1, 3) := by decide +kernel
theorem dX12_walk_156 : decode cX12_walk 156 = .ok (.goto (-124), 3) := by decide +kernel
theorem dX12_walk_159 : decode cX12_walk 159 = .ok (.iinc 2 1, 3) := by decide +kernel
theorem dX12_walk_162 : decode cX12_walk 162 = .ok (.goto (-139), 3) := by decide +kernel
theorem dX12_walk_165 : decode cX12_walk 165 = .ok (.iconst (-1), 1) := by decide +kernel
theorem dX12_walk_166 : decode cX12_walk 166 = .ok (.istore_n 2, 1) := by decide +kernel
theorem dX12_walk_167 : decode cX12_walk 167 = .ok (.iconst 0, 1) := by decide +kernel
theorem dX12_walk_168 : decode cX12_walk 168 = .ok (.istore_n 3, 1) := by decide +kernel
theorem dX12_walk_169 : decode cX12_walk 169 = .ok (.iload_n 3, 1) := by decide +kernel
theorem dX12_walk_170 : decode cX12_walk 170 = .ok (.iload_n 1, 1) := by decide +kernel
theorem dX12_walk_171 : decode cX12_walk 171 = .ok (.if_icmp .ge 46, 3) := by decide +kernel
theorem dX12_walk_174 : decode cX12_walk 174 = .ok (.aload_n 0, 1) := by decide +kernel
theorem dX12_walk_175 : decode cX12_walk 175 = .ok (.getfield 162, 3) := by decide +kernel
theorem dX12_walk_178 : decode cX12_walk 178 = .ok (.bipush 10, 2) := by decide +kernel
theorem dX12_walk_180 : decode cX12_walk 180 = .ok (.iconst 1, 1) := by decide +kernel
theorem dX12_walk_181 : decode cX12_walk 181 = .ok (.iload_n 1, 1) := by decide +kernel
theorem dX12_walk_182 : decode cX12_walk 182 = .ok (.ishl, 1) := by decide +kernel
theorem dX12_walk_183 : decode cX12_walk 183 = .ok (.iconst 1, 1) := by decide +kernel
theorem dX12_walk_184 : decode cX12_walk 184 = .ok (.isub, 1) := by decide +kernel
theorem dX12_walk_185 : decode cX12_walk 185 = .ok (.imul, 1) := by decide +kernel
theorem dX12_walk_186 : decode cX12_walk 186 = .ok (.iload_n 3, 1) := by decide +kernel
theorem dX12_walk_187 : decode cX12_walk 187 = .ok (.iadd, 1) := by decide +kernel
theorem dX12_walk_188 : decode cX12_walk 188 = .ok (.iaload, 1) := by decide +kernel
theorem dX12_walk_189 : decode cX12_walk 189 = .ok (.aload_n 0, 1) := by decide +kernel
theorem dX12_walk_190 : decode cX12_walk 190 = .ok (.iload_n 3, 1) := by decide +kernel
theorem dX12_walk_191 : decode cX12_walk 191 = .ok (.invokevirtual 358, 3) := by decide +kernel
theorem dX12_walk_194 : decode cX12_walk 194 = .ok (.iadd, 1) := by decide +kernel
theorem dX12_walk_195 : decode cX12_walk 195 = .ok (.istore 4, 2) := by decide +kernel
theorem dX12_walk_197 : decode cX12_walk 197 = .ok (.iload_n 2, 1) := by decide +kernel
theorem dX12_walk_198 : decode cX12_walk 198 = .ok (.iconst (-1), 1) := by decide +kernel
theorem dX12_walk_199 : decode cX12_walk 199 = .ok (.if_icmp .eq 9, 3) := by decide +kernel
theorem dX12_walk_202 : decode cX12_walk 202 = .ok (.iload 4, 2) := by decide +kernel
theorem dX12_walk_204 : decode cX12_walk 204 = .ok (.iload_n 2, 1) := by decide +kernel
theorem dX12_walk_205 : decode cX12_walk 205 = .ok (.if_icmp .ge 6, 3) := by decide +kernel
theorem dX12_walk_208 : decode cX12_walk 208 = .ok (.iload 4, 2) := by decide +kernel
theorem dX12_walk_210 : decode cX12_walk 210 = .ok (.istore_n 2, 1) := by decide +kernel
theorem dX12_walk_211 : decode cX12_walk 211 = .ok (.iinc 3 1, 3) := by decide +kernel
theorem dX12_walk_214 : decode cX12_walk 214 = .ok (.goto (-45), 3) := by decide +kernel
theorem dX12_walk_217 : decode cX12_walk 217 = .ok (.iload_n 2, 1) := by decide +kernel
theorem dX12_walk_218 : decode cX12_walk 218 = .ok (.ireturn, 1) := by decide +kernel
set_option maxRecDepth 20000 in
theorem glX12_foretold_0 : GoodIn wsX12_foretold ([.fieldLink RX12 165 "PostHouseModel" "thrown" "I", .fieldLink RX12 171 "PostHouseModel" "orders" "I", .fieldLink RX12 108 "PostHouseModel" "wants" "[I", .fieldLink RX12 111 "PostHouseModel" "wantThing" "[I", .fieldLink RX12 96 "PostHouseModel" "orderDay" "[I", .fieldLink RX12 114 "PostHouseModel" "wantMany" "[I", .fieldLink RX12 22 "PostHouseModel" "stock" "[I", .fieldLink RX12 203 "PostHouseModel" "comings" "I", .fieldLink RX12 40 "PostHouseModel" "comingThing" "[I", .fieldLink RX12 46 "PostHouseModel" "comingMany" "[I", .methodLink RX12 185 yX12_isIn, .static yX12_isIn, .initialized RX12, .code yX12_isIn cX12_isIn 3 (some .boolean), .methodLink RX12 193 yX12_isThing, .instanceMethod yX12_isThing, .selects RX12 yX12_isThing yX12_isThing, .code yX12_isThing cX12_isThing 2 (some .boolean), .fieldLink RX12 168 "PostHouseModel" "things" "I"]) := goodIn_sub (fun _ h => List.mem_cons_of_mem _ (List.mem_append_left _ (h))) (by decide +kernel)
set_option maxRecDepth 20000 in
theorem ggX12_foretold_X12_isIn : GoodIn wsX12_foretold wsX12_isIn := goodIn_c (glX12_foretold_0 _ (List.mem_of_getElem? (i := 13) rfl)) (goodIn_n)
set_option maxRecDepth 20000 in
theorem gX12_foretold_X12_isIn : GoodIn wsX12_foretold (va_wsS RX12 185 yX12_isIn wsX12_isIn) := goodIn_app (goodIn_of _ (by decide +kernel)) ggX12_foretold_X12_isIn
set_option maxRecDepth 20000 in
theorem glX12_foretold_1 : GoodIn wsX12_foretold (wsX120) := goodIn_sub (fun _ h => List.mem_cons_of_mem _ (List.mem_append_right _ (h))) ag_wsX120
set_option maxRecDepth 20000 in
theorem ggX12_foretold_X12_isThing : GoodIn wsX12_foretold wsX12_isThing := goodIn_c (glX12_foretold_0 _ (List.mem_of_getElem? (i := 17) rfl)) (goodIn_app (goodIn_c (glX12_foretold_0 _ (List.mem_of_getElem? (i := 18) rfl)) (goodIn_n)) (glX12_foretold_1))
set_option maxRecDepth 20000 in
theorem gX12_foretold_X12_isThing : GoodIn wsX12_foretold (wsV RX12 193 RX12 yX12_isThing wsX12_isThing) := goodIn_app (goodIn_of _ (by decide +kernel)) ggX12_foretold_X12_isThing
theorem dX12_foretold_0 : decode cX12_foretold 0 = .ok (.iload_n 2, 1) := by decide +kernel
theorem dX12_foretold_1 : decode cX12_foretold 1 = .ok (.iconst 0, 1) := by decide +kernel
theorem dX12_foretold_2 : decode cX12_foretold 2 = .ok (.sipush 999, 3) := by decide +kernel
theorem dX12_foretold_5 : decode cX12_foretold 5 = .ok (.invokestatic 185, 3) := by decide +kernel
theorem dX12_foretold_8 : decode cX12_foretold 8 = .ok (.ifCond .eq 30, 3) := by decide +kernel
theorem dX12_foretold_11 : decode cX12_foretold 11 = .ok (.iload_n 3, 1) := by decide +kernel
theorem dX12_foretold_12 : decode cX12_foretold 12 = .ok (.iconst 1, 1) := by decide +kernel
theorem dX12_foretold_13 : decode cX12_foretold 13 = .ok (.sipush 1000, 3) := by decide +kernel
theorem dX12_foretold_16 : decode cX12_foretold 16 = .ok (.invokestatic 185, 3) := by decide +kernel
theorem dX12_foretold_19 : decode cX12_foretold 19 = .ok (.ifCond .eq 19, 3) := by decide +kernel
theorem dX12_foretold_22 : decode cX12_foretold 22 = .ok (.iload 4, 2) := by decide +kernel
theorem dX12_foretold_24 : decode cX12_foretold 24 = .ok (.iconst 1, 1) := by decide +kernel
theorem dX12_foretold_25 : decode cX12_foretold 25 = .ok (.sipush 1000, 3) := by decide +kernel
theorem dX12_foretold_28 : decode cX12_foretold 28 = .ok (.invokestatic 185, 3) := by decide +kernel
theorem dX12_foretold_31 : decode cX12_foretold 31 = .ok (.ifCond .eq 7, 3) := by decide +kernel
theorem dX12_foretold_34 : decode cX12_foretold 34 = .ok (.iconst 1, 1) := by decide +kernel
theorem dX12_foretold_35 : decode cX12_foretold 35 = .ok (.goto 4, 3) := by decide +kernel
theorem dX12_foretold_38 : decode cX12_foretold 38 = .ok (.iconst 0, 1) := by decide +kernel
theorem dX12_foretold_39 : decode cX12_foretold 39 = .ok (.istore 6, 2) := by decide +kernel
theorem dX12_foretold_41 : decode cX12_foretold 41 = .ok (.aload_n 0, 1) := by decide +kernel
theorem dX12_foretold_42 : decode cX12_foretold 42 = .ok (.aload_n 0, 1) := by decide +kernel
theorem dX12_foretold_43 : decode cX12_foretold 43 = .ok (.iload_n 1, 1) := by decide +kernel
theorem dX12_foretold_44 : decode cX12_foretold 44 = .ok (.invokevirtual 193, 3) := by decide +kernel
theorem dX12_foretold_47 : decode cX12_foretold 47 = .ok (.ifCond .ne 7, 3) := by decide +kernel
theorem dX12_foretold_50 : decode cX12_foretold 50 = .ok (.iconst 1, 1) := by decide +kernel
theorem dX12_foretold_51 : decode cX12_foretold 51 = .ok (.goto 27, 3) := by decide +kernel
theorem dX12_foretold_54 : decode cX12_foretold 54 = .ok (.iload 6, 2) := by decide +kernel
theorem dX12_foretold_56 : decode cX12_foretold 56 = .ok (.ifCond .ne 7, 3) := by decide +kernel
theorem dX12_foretold_59 : decode cX12_foretold 59 = .ok (.iconst 2, 1) := by decide +kernel
theorem dX12_foretold_60 : decode cX12_foretold 60 = .ok (.goto 18, 3) := by decide +kernel
theorem dX12_foretold_63 : decode cX12_foretold 63 = .ok (.iload 5, 2) := by decide +kernel
theorem dX12_foretold_65 : decode cX12_foretold 65 = .ok (.iconst 0, 1) := by decide +kernel
theorem dX12_foretold_66 : decode cX12_foretold 66 = .ok (.iconst 2, 1) := by decide +kernel
theorem dX12_foretold_67 : decode cX12_foretold 67 = .ok (.invokestatic 185, 3) := by decide +kernel
theorem dX12_foretold_70 : decode cX12_foretold 70 = .ok (.ifCond .ne 7, 3) := by decide +kernel
theorem dX12_foretold_73 : decode cX12_foretold 73 = .ok (.iconst 3, 1) := by decide +kernel
theorem dX12_foretold_74 : decode cX12_foretold 74 = .ok (.goto 4, 3) := by decide +kernel
theorem dX12_foretold_77 : decode cX12_foretold 77 = .ok (.iconst 0, 1) := by decide +kernel
theorem dX12_foretold_78 : decode cX12_foretold 78 = .ok (.putfield 165, 3) := by decide +kernel
theorem dX12_foretold_81 : decode cX12_foretold 81 = .ok (.aload_n 0, 1) := by decide +kernel
theorem dX12_foretold_82 : decode cX12_foretold 82 = .ok (.getfield 165, 3) := by decide +kernel
theorem dX12_foretold_85 : decode cX12_foretold 85 = .ok (.ifCond .le 5, 3) := by decide +kernel
theorem dX12_foretold_88 : decode cX12_foretold 88 = .ok (.iconst 0, 1) := by decide +kernel
theorem dX12_foretold_89 : decode cX12_foretold 89 = .ok (.ireturn, 1) := by decide +kernel
theorem dX12_foretold_90 : decode cX12_foretold 90 = .ok (.iconst 0, 1) := by decide +kernel
theorem dX12_foretold_91 : decode cX12_foretold 91 = .ok (.istore 7, 2) := by decide +kernel
theorem dX12_foretold_93 : decode cX12_foretold 93 = .ok (.iconst 0, 1) := by decide +kernel
theorem dX12_foretold_94 : decode cX12_foretold 94 = .ok (.istore 8, 2) := by decide +kernel
theorem dX12_foretold_96 : decode cX12_foretold 96 = .ok (.iload 8, 2) := by decide +kernel
theorem dX12_foretold_98 : decode cX12_foretold 98 = .ok (.aload_n 0, 1) := by decide +kernel
theorem dX12_foretold_99 : decode cX12_foretold 99 = .ok (.getfield 171, 3) := by decide +kernel
theorem dX12_foretold_102 : decode cX12_foretold 102 = .ok (.if_icmp .ge 88, 3) := by decide +kernel
theorem dX12_foretold_105 : decode cX12_foretold 105 = .ok (.bipush 8, 2) := by decide +kernel
theorem dX12_foretold_107 : decode cX12_foretold 107 = .ok (.iload 8, 2) := by decide +kernel
theorem dX12_foretold_109 : decode cX12_foretold 109 = .ok (.imul, 1) := by decide +kernel
theorem dX12_foretold_110 : decode cX12_foretold 110 = .ok (.istore 9, 2) := by decide +kernel
theorem dX12_foretold_112 : decode cX12_foretold 112 = .ok (.iload 9, 2) := by decide +kernel
theorem dX12_foretold_114 : decode cX12_foretold 114 = .ok (.bipush 8, 2) := by decide +kernel
theorem dX12_foretold_116 : decode cX12_foretold 116 = .ok (.iload 8, 2) := by decide +kernel
theorem dX12_foretold_118 : decode cX12_foretold 118 = .ok (.imul, 1) := by decide +kernel
theorem dX12_foretold_119 : decode cX12_foretold 119 = .ok (.aload_n 0, 1) := by decide +kernel
theorem dX12_foretold_120 : decode cX12_foretold 120 = .ok (.getfield 108, 3) := by decide +kernel
theorem dX12_foretold_123 : decode cX12_foretold 123 = .ok (.iload 8, 2) := by decide +kernel
theorem dX12_foretold_125 : decode cX12_foretold 125 = .ok (.iaload, 1) := by decide +kernel
theorem dX12_foretold_126 : decode cX12_foretold 126 = .ok (.iadd, 1) := by decide +kernel
theorem dX12_foretold_127 : decode cX12_foretold 127 = .ok (.if_icmp .ge 57, 3) := by decide +kernel
theorem dX12_foretold_130 : decode cX12_foretold 130 = .ok (.aload_n 0, 1) := by decide +kernel
theorem dX12_foretold_131 : decode cX12_foretold 131 = .ok (.getfield 111, 3) := by decide +kernel
theorem dX12_foretold_134 : decode cX12_foretold 134 = .ok (.iload 9, 2) := by decide +kernel
theorem dX12_foretold_136 : decode cX12_foretold 136 = .ok (.iaload, 1) := by decide +kernel
theorem dX12_foretold_137 : decode cX12_foretold 137 = .ok (.iload_n 1, 1) := by decide +kernel
theorem dX12_foretold_138 : decode cX12_foretold 138 = .ok (.if_icmp .ne 40, 3) := by decide +kernel
theorem dX12_foretold_141 : decode cX12_foretold 141 = .ok (.aload_n 0, 1) := by decide +kernel
theorem dX12_foretold_142 : decode cX12_foretold 142 = .ok (.getfield 96, 3) := by decide +kernel
theorem dX12_foretold_145 : decode cX12_foretold 145 = .ok (.iload 8, 2) := by decide +kernel
theorem dX12_foretold_147 : decode cX12_foretold 147 = .ok (.iaload, 1) := by decide +kernel
theorem dX12_foretold_148 : decode cX12_foretold 148 = .ok (.iload_n 2, 1) := by decide +kernel
theorem dX12_foretold_149 : decode cX12_foretold 149 = .ok (.if_icmp .lt 29, 3) := by decide +kernel
theorem dX12_foretold_152 : decode cX12_foretold 152 = .ok (.aload_n 0, 1) := by decide +kernel
theorem dX12_foretold_153 : decode cX12_foretold 153 = .ok (.getfield 96, 3) := by decide +kernel
theorem dX12_foretold_156 : decode cX12_foretold 156 = .ok (.iload 8, 2) := by decide +kernel
theorem dX12_foretold_158 : decode cX12_foretold 158 = .ok (.iaload, 1) := by decide +kernel
theorem dX12_foretold_159 : decode cX12_foretold 159 = .ok (.iload_n 2, 1) := by decide +kernel
theorem dX12_foretold_160 : decode cX12_foretold 160 = .ok (.bipush 13, 2) := by decide +kernel
theorem dX12_foretold_162 : decode cX12_foretold 162 = .ok (.iadd, 1) := by decide +kernel
theorem dX12_foretold_163 : decode cX12_foretold 163 = .ok (.if_icmp .gt 15, 3) := by decide +kernel
theorem dX12_foretold_166 : decode cX12_foretold 166 = .ok (.iload 7, 2) := by decide +kernel
theorem dX12_foretold_168 : decode cX12_foretold 168 = .ok (.aload_n 0, 1) := by decide +kernel
theorem dX12_foretold_169 : decode cX12_foretold 169 = .ok (.getfield 114, 3) := by decide +kernel
theorem dX12_foretold_172 : decode cX12_foretold 172 = .ok (.iload 9, 2) := by decide +kernel
theorem dX12_foretold_174 : decode cX12_foretold 174 = .ok (.iaload, 1) := by decide +kernel
theorem dX12_foretold_175 : decode cX12_foretold 175 = .ok (.iadd, 1) := by decide +kernel
theorem dX12_foretold_176 : decode cX12_foretold 176 = .ok (.istore 7, 2) := by decide +kernel
theorem dX12_foretold_178 : decode cX12_foretold 178 = .ok (.iinc 9 1, 3) := by decide +kernel
theorem dX12_foretold_181 : decode cX12_foretold 181 = .ok (.goto (-69), 3) := by decide +kernel
theorem dX12_foretold_184 : decode cX12_foretold 184 = .ok (.iinc 8 1, 3) := by decide +kernel
theorem dX12_foretold_187 : decode cX12_foretold 187 = .ok (.goto (-91), 3) := by decide +kernel
theorem dX12_foretold_190 : decode cX12_foretold 190 = .ok (.sipush 1000, 3) := by decide +kernel
theorem dX12_foretold_193 : decode cX12_foretold 193 = .ok (.iload 7, 2) := by decide +kernel
theorem dX12_foretold_195 : decode cX12_foretold 195 = .ok (.imul, 1) := by decide +kernel
theorem dX12_foretold_196 : decode cX12_foretold 196 = .ok (.iload_n 3, 1) := by decide +kernel
theorem dX12_foretold_197 : decode cX12_foretold 197 = .ok (.iadd, 1) := by decide +kernel
theorem dX12_foretold_198 : decode cX12_foretold 198 = .ok (.iconst 1, 1) := by decide +kernel
theorem dX12_foretold_199 : decode cX12_foretold 199 = .ok (.isub, 1) := by decide +kernel
theorem dX12_foretold_200 : decode cX12_foretold 200 = .ok (.iload_n 3, 1) := by decide +kernel
theorem dX12_foretold_201 : decode cX12_foretold 201 = .ok (.idiv, 1) := by decide +kernel
theorem dX12_foretold_202 : decode cX12_foretold 202 = .ok (.istore 8, 2) := by decide +kernel
theorem dX12_foretold_204 : decode cX12_foretold 204 = .ok (.iload 8, 2) := by decide +kernel
theorem dX12_foretold_206 : decode cX12_foretold 206 = .ok (.iload 7, 2) := by decide +kernel
theorem dX12_foretold_208 : decode cX12_foretold 208 = .ok (.isub, 1) := by decide +kernel
theorem dX12_foretold_209 : decode cX12_foretold 209 = .ok (.aload_n 0, 1) := by decide +kernel
theorem dX12_foretold_210 : decode cX12_foretold 210 = .ok (.getfield 22, 3) := by decide +kernel
theorem dX12_foretold_213 : decode cX12_foretold 213 = .ok (.iload_n 1, 1) := by decide +kernel
theorem dX12_foretold_214 : decode cX12_foretold 214 = .ok (.iaload, 1) := by decide +kernel
theorem dX12_foretold_215 : decode cX12_foretold 215 = .ok (.isub, 1) := by decide +kernel
theorem dX12_foretold_216 : decode cX12_foretold 216 = .ok (.istore 9, 2) := by decide +kernel
theorem dX12_foretold_218 : decode cX12_foretold 218 = .ok (.iconst 0, 1) := by decide +kernel
theorem dX12_foretold_219 : decode cX12_foretold 219 = .ok (.istore 10, 2) := by decide +kernel
theorem dX12_foretold_221 : decode cX12_foretold 221 = .ok (.iload 10, 2) := by decide +kernel
theorem dX12_foretold_223 : decode cX12_foretold 223 = .ok (.aload_n 0, 1) := by decide +kernel
theorem dX12_foretold_224 : decode cX12_foretold 224 = .ok (.getfield 203, 3) := by decide +kernel
theorem dX12_foretold_227 : decode cX12_foretold 227 = .ok (.if_icmp .ge 36, 3) := by decide +kernel
theorem dX12_foretold_230 : decode cX12_foretold 230 = .ok (.iload 9, 2) := by decide +kernel
theorem dX12_foretold_232 : decode cX12_foretold 232 = .ok (.aload_n 0, 1) := by decide +kernel
theorem dX12_foretold_233 : decode cX12_foretold 233 = .ok (.getfield 40, 3) := by decide +kernel
theorem dX12_foretold_236 : decode cX12_foretold 236 = .ok (.iload 10, 2) := by decide +kernel
theorem dX12_foretold_238 : decode cX12_foretold 238 = .ok (.iaload, 1) := by decide +kernel
theorem dX12_foretold_239 : decode cX12_foretold 239 = .ok (.iload_n 1, 1) := by decide +kernel
theorem dX12_foretold_240 : decode cX12_foretold 240 = .ok (.if_icmp .ne 13, 3) := by decide +kernel
theorem dX12_foretold_243 : decode cX12_foretold 243 = .ok (.aload_n 0, 1) := by decide +kernel
theorem dX12_foretold_244 : decode cX12_foretold 244 = .ok (.getfield 46, 3) := by decide +kernel
theorem dX12_foretold_247 : decode cX12_foretold 247 = .ok (.iload 10, 2) := by decide +kernel
theorem dX12_foretold_249 : decode cX12_foretold 249 = .ok (.iaload, 1) := by decide +kernel
theorem dX12_foretold_250 : decode cX12_foretold 250 = .ok (.goto 4, 3) := by decide +kernel
theorem dX12_foretold_253 : decode cX12_foretold 253 = .ok (.iconst 0, 1) := by decide +kernel
theorem dX12_foretold_254 : decode cX12_foretold 254 = .ok (.isub, 1) := by decide +kernel
theorem dX12_foretold_255 : decode cX12_foretold 255 = .ok (.istore 9, 2) := by decide +kernel
theorem dX12_foretold_257 : decode cX12_foretold 257 = .ok (.iinc 10 1, 3) := by decide +kernel
theorem dX12_foretold_260 : decode cX12_foretold 260 = .ok (.goto (-39), 3) := by decide +kernel
theorem dX12_foretold_263 : decode cX12_foretold 263 = .ok (.iload 9, 2) := by decide +kernel
theorem dX12_foretold_265 : decode cX12_foretold 265 = .ok (.ifCond .ge 6, 3) := by decide +kernel
theorem dX12_foretold_268 : decode cX12_foretold 268 = .ok (.iconst 0, 1) := by decide +kernel
theorem dX12_foretold_269 : decode cX12_foretold 269 = .ok (.istore 9, 2) := by decide +kernel
theorem dX12_foretold_271 : decode cX12_foretold 271 = .ok (.iload 5, 2) := by decide +kernel
theorem dX12_foretold_273 : decode cX12_foretold 273 = .ok (.ifCond .ne 8, 3) := by decide +kernel
theorem dX12_foretold_276 : decode cX12_foretold 276 = .ok (.iload 7, 2) := by decide +kernel
theorem dX12_foretold_278 : decode cX12_foretold 278 = .ok (.goto 27, 3) := by decide +kernel
theorem dX12_foretold_281 : decode cX12_foretold 281 = .ok (.iload 5, 2) := by decide +kernel
theorem dX12_foretold_283 : decode cX12_foretold 283 = .ok (.iconst 1, 1) := by decide +kernel
theorem dX12_foretold_284 : decode cX12_foretold 284 = .ok (.if_icmp .ne 8, 3) := by decide +kernel
theorem dX12_foretold_287 : decode cX12_foretold 287 = .ok (.iload 8, 2) := by decide +kernel
theorem dX12_foretold_289 : decode cX12_foretold 289 = .ok (.goto 16, 3) := by decide +kernel
theorem dX12_foretold_292 : decode cX12_foretold 292 = .ok (.iload 9, 2) := by decide +kernel
theorem dX12_foretold_294 : decode cX12_foretold 294 = .ok (.iload 4, 2) := by decide +kernel
theorem dX12_foretold_296 : decode cX12_foretold 296 = .ok (.iadd, 1) := by decide +kernel
theorem dX12_foretold_297 : decode cX12_foretold 297 = .ok (.iconst 1, 1) := by decide +kernel
theorem dX12_foretold_298 : decode cX12_foretold 298 = .ok (.isub, 1) := by decide +kernel
theorem dX12_foretold_299 : decode cX12_foretold 299 = .ok (.iload 4, 2) := by decide +kernel
theorem dX12_foretold_301 : decode cX12_foretold 301 = .ok (.idiv, 1) := by decide +kernel
