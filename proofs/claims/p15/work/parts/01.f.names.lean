theorem dX10_piecesOut_10 : decode cX10_piecesOut 10 = .ok (.getfield 34, 3) := qdE180 (by decide +kernel)
theorem dX10_piecesOut_13 : decode cX10_piecesOut 13 = .ok (.isub, 1) := qdE100 (by decide +kernel)
theorem dX10_piecesOut_14 : decode cX10_piecesOut 14 = .ok (.aload_n 0, 1) := qdE42 (by decide +kernel)
theorem dX10_piecesOut_15 : decode cX10_piecesOut 15 = .ok (.getfield 37, 3) := qdE180 (by decide +kernel)
theorem dX10_piecesOut_18 : decode cX10_piecesOut 18 = .ok (.isub, 1) := qdE100 (by decide +kernel)
theorem dX10_piecesOut_19 : decode cX10_piecesOut 19 = .ok (.ireturn, 1) := qdE172 (by decide +kernel)
theorem dX10_takeBack_0 : decode cX10_takeBack 0 = .ok (.iload_n 1, 1) := qdE27 (by decide +kernel)
theorem dX10_takeBack_1 : decode cX10_takeBack 1 = .ok (.aload_n 0, 1) := qdE42 (by decide +kernel)
theorem dX10_takeBack_2 : decode cX10_takeBack 2 = .ok (.getfield 28, 3) := qdE180 (by decide +kernel)
theorem dX10_takeBack_5 : decode cX10_takeBack 5 = .ok (.aload_n 0, 1) := qdE42 (by decide +kernel)
theorem dX10_takeBack_6 : decode cX10_takeBack 6 = .ok (.getfield 37, 3) := qdE180 (by decide +kernel)
theorem dX10_takeBack_9 : decode cX10_takeBack 9 = .ok (.isub, 1) := qdE100 (by decide +kernel)
theorem dX10_takeBack_10 : decode cX10_takeBack 10 = .ok (.invokestatic 40, 3) := qdE184 (by decide +kernel)
theorem dX10_takeBack_13 : decode cX10_takeBack 13 = .ok (.istore_n 2, 1) := qdE61 (by decide +kernel)
theorem dX10_takeBack_14 : decode cX10_takeBack 14 = .ok (.aload_n 0, 1) := qdE42 (by decide +kernel)
theorem dX10_takeBack_15 : decode cX10_takeBack 15 = .ok (.getfield 46, 3) := qdE180 (by decide +kernel)
theorem dX10_takeBack_18 : decode cX10_takeBack 18 = .ok (.ifnull 16, 3) := qdE198 (by decide +kernel)
theorem dX10_takeBack_21 : decode cX10_takeBack 21 = .ok (.aload_n 0, 1) := qdE42 (by decide +kernel)
theorem dX10_takeBack_22 : decode cX10_takeBack 22 = .ok (.getfield 46, 3) := qdE180 (by decide +kernel)
theorem dX10_takeBack_25 : decode cX10_takeBack 25 = .ok (.dup, 1) := qdE89 (by decide +kernel)
theorem dX10_takeBack_26 : decode cX10_takeBack 26 = .ok (.getfield 49, 3) := qdE180 (by decide +kernel)
theorem dX10_takeBack_29 : decode cX10_takeBack 29 = .ok (.iload_n 2, 1) := qdE28 (by decide +kernel)
theorem dX10_takeBack_30 : decode cX10_takeBack 30 = .ok (.iadd, 1) := qdE96 (by decide +kernel)
theorem dX10_takeBack_31 : decode cX10_takeBack 31 = .ok (.putfield 49, 3) := qdE181 (by decide +kernel)
theorem dX10_takeBack_34 : decode cX10_takeBack 34 = .ok (.aload_n 0, 1) := qdE42 (by decide +kernel)
theorem dX10_takeBack_35 : decode cX10_takeBack 35 = .ok (.dup, 1) := qdE89 (by decide +kernel)
theorem dX10_takeBack_36 : decode cX10_takeBack 36 = .ok (.getfield 37, 3) := qdE180 (by decide +kernel)
theorem dX10_takeBack_39 : decode cX10_takeBack 39 = .ok (.iload_n 2, 1) := qdE28 (by decide +kernel)
theorem dX10_takeBack_40 : decode cX10_takeBack 40 = .ok (.iadd, 1) := qdE96 (by decide +kernel)
theorem dX10_takeBack_41 : decode cX10_takeBack 41 = .ok (.putfield 37, 3) := qdE181 (by decide +kernel)
theorem dX10_takeBack_44 : decode cX10_takeBack 44 = .ok (.aload_n 0, 1) := qdE42 (by decide +kernel)
theorem dX10_takeBack_45 : decode cX10_takeBack 45 = .ok (.getfield 15, 3) := qdE180 (by decide +kernel)
theorem dX10_takeBack_48 : decode cX10_takeBack 48 = .ok (.dup, 1) := qdE89 (by decide +kernel)
theorem dX10_takeBack_49 : decode cX10_takeBack 49 = .ok (.getfield 49, 3) := qdE180 (by decide +kernel)
theorem dX10_takeBack_52 : decode cX10_takeBack 52 = .ok (.iload_n 1, 1) := qdE27 (by decide +kernel)
theorem dX10_takeBack_53 : decode cX10_takeBack 53 = .ok (.iload_n 2, 1) := qdE28 (by decide +kernel)
theorem dX10_takeBack_54 : decode cX10_takeBack 54 = .ok (.isub, 1) := qdE100 (by decide +kernel)
theorem dX10_takeBack_55 : decode cX10_takeBack 55 = .ok (.iadd, 1) := qdE96 (by decide +kernel)
theorem dX10_takeBack_56 : decode cX10_takeBack 56 = .ok (.putfield 49, 3) := qdE181 (by decide +kernel)
theorem dX10_takeBack_59 : decode cX10_takeBack 59 = .ok (.aload_n 0, 1) := qdE42 (by decide +kernel)
theorem dX10_takeBack_60 : decode cX10_takeBack 60 = .ok (.dup, 1) := qdE89 (by decide +kernel)
theorem dX10_takeBack_61 : decode cX10_takeBack 61 = .ok (.getfield 34, 3) := qdE180 (by decide +kernel)
theorem dX10_takeBack_64 : decode cX10_takeBack 64 = .ok (.iload_n 1, 1) := qdE27 (by decide +kernel)
theorem dX10_takeBack_65 : decode cX10_takeBack 65 = .ok (.iload_n 2, 1) := qdE28 (by decide +kernel)
theorem dX10_takeBack_66 : decode cX10_takeBack 66 = .ok (.isub, 1) := qdE100 (by decide +kernel)
theorem dX10_takeBack_67 : decode cX10_takeBack 67 = .ok (.iadd, 1) := qdE96 (by decide +kernel)
theorem dX10_takeBack_68 : decode cX10_takeBack 68 = .ok (.putfield 34, 3) := qdE181 (by decide +kernel)
theorem dX10_takeBack_71 : decode cX10_takeBack 71 = .ok (.return_, 1) := qdE177 (by decide +kernel)
set_option maxRecDepth 20000 in
theorem glX11_init_1 : GoodIn wsX11_init (wsX11_init_r2) := goodIn_sub (fun _ h => List.mem_cons_of_mem _ (List.mem_append_left _ (List.mem_append_left _ (List.mem_append_left _ (List.mem_append_left _ (List.mem_append_left _ (List.mem_append_left _ (List.mem_append_left _ (List.mem_append_right _ (List.mem_append_left _ (h))))))))))) (by decide +kernel)
set_option maxRecDepth 20000 in
theorem glX11_init_0 : GoodIn wsX11_init (wsX11_init_r1) := goodIn_sub (fun _ h => List.mem_cons_of_mem _ (List.mem_append_left _ (List.mem_append_left _ (List.mem_append_left _ (List.mem_append_left _ (List.mem_append_left _ (List.mem_append_left _ (List.mem_append_left _ (List.mem_append_left _ (h)))))))))) (by decide +kernel)
set_option maxRecDepth 20000 in
theorem glX11_init_4 : GoodIn wsX11_init (wsX70) := goodIn_sub (fun _ h => List.mem_cons_of_mem _ (List.mem_append_left _ (List.mem_append_left _ (List.mem_append_left _ (List.mem_append_left _ (List.mem_append_left _ (List.mem_append_left _ (List.mem_append_right _ (h))))))))) ag_wsX70
set_option maxRecDepth 20000 in
theorem ggX11_init_X7_init : GoodIn wsX11_init wsX7_init := goodIn_c (glX11_init_1 _ (List.mem_of_getElem? (i := 12) rfl)) (goodIn_app (goodIn_c (glX11_init_1 _ (List.mem_of_getElem? (i := 13) rfl)) (goodIn_c (glX11_init_0 _ (List.mem_of_getElem? (i := 1) rfl)) (goodIn_c (glX11_init_0 _ (List.mem_of_getElem? (i := 2) rfl)) (goodIn_c (glX11_init_1 _ (List.mem_of_getElem? (i := 14) rfl)) (goodIn_c (glX11_init_1 _ (List.mem_of_getElem? (i := 15) rfl)) (goodIn_c (glX11_init_1 _ (List.mem_of_getElem? (i := 16) rfl)) (goodIn_n))))))) (glX11_init_4))
set_option maxRecDepth 20000 in
theorem gX11_init_X7_init_n9 : GoodIn wsX11_init (wsX7_init) := ggX11_init_X7_init
set_option maxRecDepth 20000 in
theorem glX11_init_6 : GoodIn wsX11_init (wsX00) := goodIn_sub (fun _ h => List.mem_cons_of_mem _ (List.mem_append_left _ (List.mem_append_left _ (List.mem_append_left _ (List.mem_append_left _ (List.mem_append_right _ (h))))))) ag_wsX00
set_option maxRecDepth 20000 in
theorem ggX11_init_X0_init : GoodIn wsX11_init wsX0_init := goodIn_c (glX11_init_1 _ (List.mem_of_getElem? (i := 18) rfl)) (goodIn_app (goodIn_c (glX11_init_1 _ (List.mem_of_getElem? (i := 19) rfl)) (goodIn_c (glX11_init_0 _ (List.mem_of_getElem? (i := 1) rfl)) (goodIn_c (glX11_init_0 _ (List.mem_of_getElem? (i := 2) rfl)) (goodIn_c (glX11_init_1 _ (List.mem_of_getElem? (i := 20) rfl)) (goodIn_c (glX11_init_1 _ (List.mem_of_getElem? (i := 21) rfl)) (goodIn_n)))))) (glX11_init_6))
set_option maxRecDepth 20000 in
theorem gX11_init_X0_init_n18 : GoodIn wsX11_init (wsX0_init) := ggX11_init_X0_init
set_option maxRecDepth 20000 in
theorem glX11_init_2 : GoodIn wsX11_init (wsX11_init_r3) := goodIn_sub (fun _ h => List.mem_cons_of_mem _ (List.mem_append_left _ (List.mem_append_left _ (List.mem_append_left _ (List.mem_append_left _ (List.mem_append_left _ (List.mem_append_left _ (List.mem_append_left _ (List.mem_append_right _ (List.mem_append_right _ (List.mem_append_left _ (h)))))))))))) (by decide +kernel)
set_option maxRecDepth 20000 in
theorem glX11_init_7 : GoodIn wsX11_init (wsX10) := goodIn_sub (fun _ h => List.mem_cons_of_mem _ (List.mem_append_left _ (List.mem_append_left _ (List.mem_append_left _ (List.mem_append_right _ (h)))))) ag_wsX10
set_option maxRecDepth 20000 in
theorem ggX11_init_X1_init : GoodIn wsX11_init wsX1_init := goodIn_c (glX11_init_1 _ (List.mem_of_getElem? (i := 23) rfl)) (goodIn_app (goodIn_c (glX11_init_2 _ (List.mem_of_getElem? (i := 0) rfl)) (goodIn_c (glX11_init_0 _ (List.mem_of_getElem? (i := 1) rfl)) (goodIn_c (glX11_init_0 _ (List.mem_of_getElem? (i := 2) rfl)) (goodIn_c (glX11_init_2 _ (List.mem_of_getElem? (i := 1) rfl)) (goodIn_c (glX11_init_2 _ (List.mem_of_getElem? (i := 2) rfl)) (goodIn_c (glX11_init_2 _ (List.mem_of_getElem? (i := 3) rfl)) (goodIn_c (glX11_init_2 _ (List.mem_of_getElem? (i := 4) rfl)) (goodIn_c (glX11_init_2 _ (List.mem_of_getElem? (i := 5) rfl)) (goodIn_n))))))))) (glX11_init_7))
set_option maxRecDepth 20000 in
theorem gX11_init_X1_init_n25 : GoodIn wsX11_init (wsX1_init) := ggX11_init_X1_init
set_option maxRecDepth 20000 in
theorem glX11_init_8 : GoodIn wsX11_init (wsX50) := goodIn_sub (fun _ h => List.mem_cons_of_mem _ (List.mem_append_left _ (List.mem_append_left _ (List.mem_append_right _ (h))))) ag_wsX50
set_option maxRecDepth 20000 in
theorem ggX11_init_X5_init : GoodIn wsX11_init wsX5_init := goodIn_c (glX11_init_2 _ (List.mem_of_getElem? (i := 8) rfl)) (goodIn_app (goodIn_c (glX11_init_2 _ (List.mem_of_getElem? (i := 9) rfl)) (goodIn_c (glX11_init_0 _ (List.mem_of_getElem? (i := 1) rfl)) (goodIn_c (glX11_init_0 _ (List.mem_of_getElem? (i := 2) rfl)) (goodIn_c (glX11_init_2 _ (List.mem_of_getElem? (i := 3) rfl)) (goodIn_c (glX11_init_2 _ (List.mem_of_getElem? (i := 10) rfl)) (goodIn_c (glX11_init_2 _ (List.mem_of_getElem? (i := 11) rfl)) (goodIn_n))))))) (glX11_init_8))
set_option maxRecDepth 20000 in
theorem gX11_init_X5_init : GoodIn wsX11_init (wsX5_init) := ggX11_init_X5_init
set_option maxRecDepth 20000 in
theorem glX11_init_9 : GoodIn wsX11_init (wsX40) := goodIn_sub (fun _ h => List.mem_cons_of_mem _ (List.mem_append_left _ (List.mem_append_right _ (h)))) ag_wsX40
set_option maxRecDepth 20000 in
theorem ggX11_init_X4_init : GoodIn wsX11_init wsX4_init := goodIn_c (glX11_init_2 _ (List.mem_of_getElem? (i := 13) rfl)) (goodIn_app (goodIn_c (glX11_init_2 _ (List.mem_of_getElem? (i := 14) rfl)) (goodIn_c (glX11_init_0 _ (List.mem_of_getElem? (i := 1) rfl)) (goodIn_c (glX11_init_0 _ (List.mem_of_getElem? (i := 2) rfl)) (goodIn_c (glX11_init_2 _ (List.mem_of_getElem? (i := 3) rfl)) (goodIn_c (glX11_init_2 _ (List.mem_of_getElem? (i := 15) rfl)) (goodIn_c (glX11_init_2 _ (List.mem_of_getElem? (i := 16) rfl)) (goodIn_c (glX11_init_2 _ (List.mem_of_getElem? (i := 17) rfl)) (goodIn_n)))))))) (glX11_init_9))
set_option maxRecDepth 20000 in
theorem gX11_init_X4_init_n60 : GoodIn wsX11_init (wsX4_init) := ggX11_init_X4_init
set_option maxRecDepth 20000 in
theorem glX11_init_3 : GoodIn wsX11_init (wsX11_init_r4) := goodIn_sub (fun _ h => List.mem_cons_of_mem _ (List.mem_append_left _ (List.mem_append_left _ (List.mem_append_left _ (List.mem_append_left _ (List.mem_append_left _ (List.mem_append_left _ (List.mem_append_left _ (List.mem_append_right _ (List.mem_append_right _ (List.mem_append_right _ (h)))))))))))) (by decide +kernel)
set_option maxRecDepth 20000 in
theorem glX11_init_10 : GoodIn wsX11_init (wsX90) := goodIn_sub (fun _ h => List.mem_cons_of_mem _ (List.mem_append_right _ (h))) ag_wsX90
set_option maxRecDepth 20000 in
theorem ggX11_init_X9_init : GoodIn wsX11_init wsX9_init := goodIn_c (glX11_init_2 _ (List.mem_of_getElem? (i := 19) rfl)) (goodIn_app (goodIn_c (glX11_init_2 _ (List.mem_of_getElem? (i := 20) rfl)) (goodIn_c (glX11_init_0 _ (List.mem_of_getElem? (i := 1) rfl)) (goodIn_c (glX11_init_0 _ (List.mem_of_getElem? (i := 2) rfl)) (goodIn_c (glX11_init_2 _ (List.mem_of_getElem? (i := 21) rfl)) (goodIn_c (glX11_init_2 _ (List.mem_of_getElem? (i := 22) rfl)) (goodIn_c (glX11_init_2 _ (List.mem_of_getElem? (i := 23) rfl)) (goodIn_c (glX11_init_3 _ (List.mem_of_getElem? (i := 0) rfl)) (goodIn_c (glX11_init_2 _ (List.mem_of_getElem? (i := 3) rfl)) (goodIn_c (glX11_init_3 _ (List.mem_of_getElem? (i := 1) rfl)) (goodIn_c (glX11_init_3 _ (List.mem_of_getElem? (i := 2) rfl)) (goodIn_c (glX11_init_3 _ (List.mem_of_getElem? (i := 3) rfl)) (goodIn_n)))))))))))) (glX11_init_10))
set_option maxRecDepth 20000 in
theorem gX11_init_X9_init_n67 : GoodIn wsX11_init (wsX9_init) := ggX11_init_X9_init
theorem dX11_init_0 : decode cX11_init 0 = .ok (.aload_n 0, 1) := qdE42 (by decide +kernel)
theorem dX11_init_1 : decode cX11_init 1 = .ok (.invokespecial 1, 3) := qdE183 (by decide +kernel)
theorem dX11_init_4 : decode cX11_init 4 = .ok (.aload_n 0, 1) := qdE42 (by decide +kernel)
theorem dX11_init_5 : decode cX11_init 5 = .ok (.new 7, 3) := qdE187 (by decide +kernel)
theorem dX11_init_8 : decode cX11_init 8 = .ok (.dup, 1) := qdE89 (by decide +kernel)
theorem dX11_init_9 : decode cX11_init 9 = .ok (.invokespecial 9, 3) := qdE183 (by decide +kernel)
theorem dX11_init_12 : decode cX11_init 12 = .ok (.putfield 10, 3) := qdE181 (by decide +kernel)
theorem dX11_init_15 : decode cX11_init 15 = .ok (.aload_n 0, 1) := qdE42 (by decide +kernel)
theorem dX11_init_16 : decode cX11_init 16 = .ok (.new 16, 3) := qdE187 (by decide +kernel)
theorem dX11_init_19 : decode cX11_init 19 = .ok (.dup, 1) := qdE89 (by decide +kernel)
theorem dX11_init_20 : decode cX11_init 20 = .ok (.invokespecial 18, 3) := qdE183 (by decide +kernel)
theorem dX11_init_23 : decode cX11_init 23 = .ok (.putfield 19, 3) := qdE181 (by decide +kernel)
theorem dX11_init_26 : decode cX11_init 26 = .ok (.aload_n 0, 1) := qdE42 (by decide +kernel)
theorem dX11_init_27 : decode cX11_init 27 = .ok (.new 23, 3) := qdE187 (by decide +kernel)
theorem dX11_init_30 : decode cX11_init 30 = .ok (.dup, 1) := qdE89 (by decide +kernel)
theorem dX11_init_31 : decode cX11_init 31 = .ok (.invokespecial 25, 3) := qdE183 (by decide +kernel)
theorem dX11_init_34 : decode cX11_init 34 = .ok (.putfield 26, 3) := qdE181 (by decide +kernel)
theorem dX11_init_37 : decode cX11_init 37 = .ok (.aload_n 0, 1) := qdE42 (by decide +kernel)
theorem dX11_init_38 : decode cX11_init 38 = .ok (.new 30, 3) := qdE187 (by decide +kernel)
theorem dX11_init_41 : decode cX11_init 41 = .ok (.dup, 1) := qdE89 (by decide +kernel)
theorem dX11_init_42 : decode cX11_init 42 = .ok (.invokespecial 32, 3) := qdE183 (by decide +kernel)
theorem dX11_init_45 : decode cX11_init 45 = .ok (.putfield 33, 3) := qdE181 (by decide +kernel)
theorem dX11_init_48 : decode cX11_init 48 = .ok (.aload_n 0, 1) := qdE42 (by decide +kernel)
theorem dX11_init_49 : decode cX11_init 49 = .ok (.new 30, 3) := qdE187 (by decide +kernel)
theorem dX11_init_52 : decode cX11_init 52 = .ok (.dup, 1) := qdE89 (by decide +kernel)
theorem dX11_init_53 : decode cX11_init 53 = .ok (.invokespecial 32, 3) := qdE183 (by decide +kernel)
theorem dX11_init_56 : decode cX11_init 56 = .ok (.putfield 37, 3) := qdE181 (by decide +kernel)
theorem dX11_init_59 : decode cX11_init 59 = .ok (.aload_n 0, 1) := qdE42 (by decide +kernel)
theorem dX11_init_60 : decode cX11_init 60 = .ok (.sipush 512, 3) := qdE17 (by decide +kernel)
theorem dX11_init_63 : decode cX11_init 63 = .ok (.anewarray 40, 3) := qdE189 (by decide +kernel)
theorem dX11_init_66 : decode cX11_init 66 = .ok (.putfield 42, 3) := qdE181 (by decide +kernel)
theorem dX11_init_69 : decode cX11_init 69 = .ok (.aload_n 0, 1) := qdE42 (by decide +kernel)
theorem dX11_init_70 : decode cX11_init 70 = .ok (.bipush 60, 2) := qdE16 (by decide +kernel)
theorem dX11_init_72 : decode cX11_init 72 = .ok (.anewarray 46, 3) := qdE189 (by decide +kernel)
theorem dX11_init_75 : decode cX11_init 75 = .ok (.putfield 48, 3) := qdE181 (by decide +kernel)
theorem dX11_init_78 : decode cX11_init 78 = .ok (.aload_n 0, 1) := qdE42 (by decide +kernel)
theorem dX11_init_79 : decode cX11_init 79 = .ok (.sipush 300, 3) := qdE17 (by decide +kernel)
theorem dX11_init_82 : decode cX11_init 82 = .ok (.anewarray 52, 3) := qdE189 (by decide +kernel)
theorem dX11_init_85 : decode cX11_init 85 = .ok (.putfield 54, 3) := qdE181 (by decide +kernel)
theorem dX11_init_88 : decode cX11_init 88 = .ok (.aload_n 0, 1) := qdE42 (by decide +kernel)
theorem dX11_init_89 : decode cX11_init 89 = .ok (.new 58, 3) := qdE187 (by decide +kernel)
theorem dX11_init_92 : decode cX11_init 92 = .ok (.dup, 1) := qdE89 (by decide +kernel)
theorem dX11_init_93 : decode cX11_init 93 = .ok (.invokespecial 60, 3) := qdE183 (by decide +kernel)
theorem dX11_init_96 : decode cX11_init 96 = .ok (.putfield 61, 3) := qdE181 (by decide +kernel)
theorem dX11_init_99 : decode cX11_init 99 = .ok (.aload_n 0, 1) := qdE42 (by decide +kernel)
theorem dX11_init_100 : decode cX11_init 100 = .ok (.new 65, 3) := qdE187 (by decide +kernel)
theorem dX11_init_103 : decode cX11_init 103 = .ok (.dup, 1) := qdE89 (by decide +kernel)
theorem dX11_init_104 : decode cX11_init 104 = .ok (.invokespecial 67, 3) := qdE183 (by decide +kernel)
theorem dX11_init_107 : decode cX11_init 107 = .ok (.putfield 68, 3) := qdE181 (by decide +kernel)
theorem dX11_init_110 : decode cX11_init 110 = .ok (.aload_n 0, 1) := qdE42 (by decide +kernel)
theorem dX11_init_111 : decode cX11_init 111 = .ok (.iconst (-1), 1) := qdE2 (by decide +kernel)
theorem dX11_init_112 : decode cX11_init 112 = .ok (.putfield 72, 3) := qdE181 (by decide +kernel)
theorem dX11_init_115 : decode cX11_init 115 = .ok (.return_, 1) := qdE177 (by decide +kernel)
set_option maxRecDepth 20000 in
theorem glX11_feed_0 : GoodIn wsX11_feed ([Cond.fieldLink RX11 10 "PostHouse" "tape" "LPostHouse$Tape;", Cond.fieldLink RX11 84 "PostHouse$Tape" "length" "I", Cond.methodLink RX11 76 yX7_hasRoom, Cond.instanceMethod yX7_hasRoom, Cond.selects RX7 yX7_hasRoom yX7_hasRoom, Cond.initialized RX7, Cond.code yX7_hasRoom cX7_hasRoom 1 (some .boolean), Cond.fieldLink RX7 19 "PostHouse$Tape" "length" "I", Cond.methodLink RX11 80 yX7_put, Cond.instanceMethod yX7_put, Cond.selects RX7 yX7_put yX7_put, Cond.code yX7_put cX7_put 3 none, Cond.fieldLink RX7 11 "PostHouse$Tape" "bytes" "[B"]) := goodIn_sub (fun _ h => List.mem_cons_of_mem _ (List.mem_append_left _ (List.mem_append_left _ (h)))) (by decide +kernel)
set_option maxRecDepth 20000 in
theorem glX11_feed_2 : GoodIn wsX11_feed (wsX70) := goodIn_sub (fun _ h => List.mem_cons_of_mem _ (List.mem_append_right _ (h))) ag_wsX70
set_option maxRecDepth 20000 in
theorem ggX11_feed_X7_hasRoom : GoodIn wsX11_feed wsX7_hasRoom := goodIn_c (glX11_feed_0 _ (List.mem_of_getElem? (i := 6) rfl)) (goodIn_app (goodIn_c (glX11_feed_0 _ (List.mem_of_getElem? (i := 7) rfl)) (goodIn_n)) (glX11_feed_2))
set_option maxRecDepth 20000 in
theorem gX11_feed_X7_hasRoom : GoodIn wsX11_feed (wsV RX11 76 RX7 yX7_hasRoom wsX7_hasRoom) := goodIn_app (goodIn_c (glX11_feed_0 _ (List.mem_of_getElem? (i := 2) rfl)) (goodIn_c (glX11_feed_0 _ (List.mem_of_getElem? (i := 3) rfl)) (goodIn_c (glX11_feed_0 _ (List.mem_of_getElem? (i := 4) rfl)) (goodIn_c (glX11_feed_0 _ (List.mem_of_getElem? (i := 5) rfl)) (goodIn_n))))) ggX11_feed_X7_hasRoom
set_option maxRecDepth 20000 in
theorem ggX11_feed_X7_put : GoodIn wsX11_feed wsX7_put := goodIn_c (glX11_feed_0 _ (List.mem_of_getElem? (i := 11) rfl)) (goodIn_app (goodIn_c (glX11_feed_0 _ (List.mem_of_getElem? (i := 7) rfl)) (goodIn_c (glX11_feed_0 _ (List.mem_of_getElem? (i := 12) rfl)) (goodIn_n))) (glX11_feed_2))
set_option maxRecDepth 20000 in
theorem gX11_feed_X7_put : GoodIn wsX11_feed (wsV RX11 80 RX7 yX7_put wsX7_put) := goodIn_app (goodIn_c (glX11_feed_0 _ (List.mem_of_getElem? (i := 8) rfl)) (goodIn_c (glX11_feed_0 _ (List.mem_of_getElem? (i := 9) rfl)) (goodIn_c (glX11_feed_0 _ (List.mem_of_getElem? (i := 10) rfl)) (goodIn_c (glX11_feed_0 _ (List.mem_of_getElem? (i := 5) rfl)) (goodIn_n))))) ggX11_feed_X7_put
theorem dX11_feed_0 : decode cX11_feed 0 = .ok (.aload_n 0, 1) := qdE42 (by decide +kernel)
theorem dX11_feed_1 : decode cX11_feed 1 = .ok (.getfield 10, 3) := qdE180 (by decide +kernel)
theorem dX11_feed_4 : decode cX11_feed 4 = .ok (.invokevirtual 76, 3) := qdE182 (by decide +kernel)
theorem dX11_feed_7 : decode cX11_feed 7 = .ok (.ifCond .ne 5, 3) := qdE154 (by decide +kernel)
theorem dX11_feed_10 : decode cX11_feed 10 = .ok (.iconst (-1), 1) := qdE2 (by decide +kernel)
theorem dX11_feed_11 : decode cX11_feed 11 = .ok (.ireturn, 1) := qdE172 (by decide +kernel)
theorem dX11_feed_12 : decode cX11_feed 12 = .ok (.aload_n 0, 1) := qdE42 (by decide +kernel)
theorem dX11_feed_13 : decode cX11_feed 13 = .ok (.getfield 10, 3) := qdE180 (by decide +kernel)
theorem dX11_feed_16 : decode cX11_feed 16 = .ok (.iload_n 1, 1) := qdE27 (by decide +kernel)
theorem dX11_feed_17 : decode cX11_feed 17 = .ok (.invokevirtual 80, 3) := qdE182 (by decide +kernel)
theorem dX11_feed_20 : decode cX11_feed 20 = .ok (.aload_n 0, 1) := qdE42 (by decide +kernel)
theorem dX11_feed_21 : decode cX11_feed 21 = .ok (.getfield 10, 3) := qdE180 (by decide +kernel)
theorem dX11_feed_24 : decode cX11_feed 24 = .ok (.iload_n 2, 1) := qdE28 (by decide +kernel)
theorem dX11_feed_25 : decode cX11_feed 25 = .ok (.invokevirtual 80, 3) := qdE182 (by decide +kernel)
theorem dX11_feed_28 : decode cX11_feed 28 = .ok (.aload_n 0, 1) := qdE42 (by decide +kernel)
theorem dX11_feed_29 : decode cX11_feed 29 = .ok (.getfield 10, 3) := qdE180 (by decide +kernel)
theorem dX11_feed_32 : decode cX11_feed 32 = .ok (.iload_n 3, 1) := qdE29 (by decide +kernel)
theorem dX11_feed_33 : decode cX11_feed 33 = .ok (.invokevirtual 80, 3) := qdE182 (by decide +kernel)
theorem dX11_feed_36 : decode cX11_feed 36 = .ok (.aload_n 0, 1) := qdE42 (by decide +kernel)
theorem dX11_feed_37 : decode cX11_feed 37 = .ok (.getfield 10, 3) := qdE180 (by decide +kernel)
theorem dX11_feed_40 : decode cX11_feed 40 = .ok (.iload 4, 2) := qdE21 (by decide +kernel)
theorem dX11_feed_42 : decode cX11_feed 42 = .ok (.invokevirtual 80, 3) := qdE182 (by decide +kernel)
theorem dX11_feed_45 : decode cX11_feed 45 = .ok (.aload_n 0, 1) := qdE42 (by decide +kernel)
theorem dX11_feed_46 : decode cX11_feed 46 = .ok (.getfield 10, 3) := qdE180 (by decide +kernel)
theorem dX11_feed_49 : decode cX11_feed 49 = .ok (.iload 5, 2) := qdE21 (by decide +kernel)
theorem dX11_feed_51 : decode cX11_feed 51 = .ok (.invokevirtual 80, 3) := qdE182 (by decide +kernel)
theorem dX11_feed_54 : decode cX11_feed 54 = .ok (.aload_n 0, 1) := qdE42 (by decide +kernel)
theorem dX11_feed_55 : decode cX11_feed 55 = .ok (.getfield 10, 3) := qdE180 (by decide +kernel)
theorem dX11_feed_58 : decode cX11_feed 58 = .ok (.getfield 84, 3) := qdE180 (by decide +kernel)
theorem dX11_feed_61 : decode cX11_feed 61 = .ok (.ireturn, 1) := qdE172 (by decide +kernel)
theorem dX11_end_0 : decode cX11_end 0 = .ok (.iload_n 1, 1) := qdE27 (by decide +kernel)
theorem dX11_end_1 : decode cX11_end 1 = .ok (.ifCond .lt 14, 3) := qdE155 (by decide +kernel)
theorem dX11_end_4 : decode cX11_end 4 = .ok (.iload_n 1, 1) := qdE27 (by decide +kernel)
theorem dX11_end_5 : decode cX11_end 5 = .ok (.aload_n 0, 1) := qdE42 (by decide +kernel)
theorem dX11_end_6 : decode cX11_end 6 = .ok (.getfield 10, 3) := qdE180 (by decide +kernel)
theorem dX11_end_9 : decode cX11_end 9 = .ok (.getfield 84, 3) := qdE180 (by decide +kernel)
theorem dX11_end_12 : decode cX11_end 12 = .ok (.if_icmp .le 5, 3) := qdE164 (by decide +kernel)
theorem dX11_end_15 : decode cX11_end 15 = .ok (.iconst 0, 1) := qdE3 (by decide +kernel)
theorem dX11_end_16 : decode cX11_end 16 = .ok (.ireturn, 1) := qdE172 (by decide +kernel)
theorem dX11_end_17 : decode cX11_end 17 = .ok (.aload_n 0, 1) := qdE42 (by decide +kernel)
theorem dX11_end_18 : decode cX11_end 18 = .ok (.getfield 10, 3) := qdE180 (by decide +kernel)
theorem dX11_end_21 : decode cX11_end 21 = .ok (.iload_n 1, 1) := qdE27 (by decide +kernel)
theorem dX11_end_22 : decode cX11_end 22 = .ok (.putfield 84, 3) := qdE181 (by decide +kernel)
theorem dX11_end_25 : decode cX11_end 25 = .ok (.iconst 1, 1) := qdE4 (by decide +kernel)
theorem dX11_end_26 : decode cX11_end 26 = .ok (.ireturn, 1) := qdE172 (by decide +kernel)
set_option maxRecDepth 20000 in
theorem glX11_thing_0 : GoodIn wsX11_thing (wsX11_thing_r1) := goodIn_sub (fun _ h => List.mem_cons_of_mem _ (List.mem_append_left _ (List.mem_append_left _ (List.mem_append_left _ (List.mem_append_left _ (List.mem_append_left _ (List.mem_append_left _ (h)))))))) (by decide +kernel)
set_option maxRecDepth 20000 in
theorem ggX11_thing_X11_within : GoodIn wsX11_thing wsX11_within := goodIn_c (glX11_thing_0 _ (List.mem_of_getElem? (i := 9) rfl)) (goodIn_n)
set_option maxRecDepth 20000 in
theorem gX11_thing_X11_within : GoodIn wsX11_thing (va_wsS RX11 87 yX11_within wsX11_within) := goodIn_app (goodIn_c (glX11_thing_0 _ (List.mem_of_getElem? (i := 6) rfl)) (goodIn_c (glX11_thing_0 _ (List.mem_of_getElem? (i := 7) rfl)) (goodIn_c (glX11_thing_0 _ (List.mem_of_getElem? (i := 8) rfl)) (goodIn_n)))) ggX11_thing_X11_within
set_option maxRecDepth 20000 in
theorem glX11_thing_3 : GoodIn wsX11_thing (wsX00) := goodIn_sub (fun _ h => List.mem_cons_of_mem _ (List.mem_append_left _ (List.mem_append_left _ (List.mem_append_left _ (List.mem_append_right _ (h)))))) ag_wsX00
set_option maxRecDepth 20000 in
theorem glX11_thing_4 : GoodIn wsX11_thing (wsX80) := goodIn_sub (fun _ h => List.mem_cons_of_mem _ (List.mem_append_left _ (List.mem_append_left _ (List.mem_append_right _ (h))))) ag_wsX80
set_option maxRecDepth 20000 in
theorem ggX11_thing_X0_ofCode : GoodIn wsX11_thing wsX0_ofCode := goodIn_c (glX11_thing_0 _ (List.mem_of_getElem? (i := 14) rfl)) (goodIn_app (goodIn_app (goodIn_c (glX11_thing_0 _ (List.mem_of_getElem? (i := 15) rfl)) (goodIn_c (glX11_thing_0 _ (List.mem_of_getElem? (i := 16) rfl)) (goodIn_c (glX11_thing_0 _ (List.mem_of_getElem? (i := 17) rfl)) (goodIn_n)))) (glX11_thing_3)) (glX11_thing_4))
set_option maxRecDepth 20000 in
theorem gX11_thing_X0_ofCode : GoodIn wsX11_thing (wsV RX11 98 RX0 yX0_ofCode wsX0_ofCode) := goodIn_app (goodIn_c (glX11_thing_0 _ (List.mem_of_getElem? (i := 10) rfl)) (goodIn_c (glX11_thing_0 _ (List.mem_of_getElem? (i := 11) rfl)) (goodIn_c (glX11_thing_0 _ (List.mem_of_getElem? (i := 12) rfl)) (goodIn_c (glX11_thing_0 _ (List.mem_of_getElem? (i := 13) rfl)) (goodIn_n))))) ggX11_thing_X0_ofCode
set_option maxRecDepth 20000 in
theorem glX11_thing_1 : GoodIn wsX11_thing (wsX11_thing_r2) := goodIn_sub (fun _ h => List.mem_cons_of_mem _ (List.mem_append_left _ (List.mem_append_left _ (List.mem_append_left _ (List.mem_append_left _ (List.mem_append_left _ (List.mem_append_right _ (h)))))))) (by decide +kernel)
set_option maxRecDepth 20000 in
theorem ggX11_thing_X0_add : GoodIn wsX11_thing wsX0_add := goodIn_c (glX11_thing_0 _ (List.mem_of_getElem? (i := 21) rfl)) (goodIn_app (goodIn_app (goodIn_c (glX11_thing_0 _ (List.mem_of_getElem? (i := 15) rfl)) (goodIn_c (glX11_thing_0 _ (List.mem_of_getElem? (i := 16) rfl)) (goodIn_c (glX11_thing_0 _ (List.mem_of_getElem? (i := 22) rfl)) (goodIn_c (glX11_thing_0 _ (List.mem_of_getElem? (i := 23) rfl)) (goodIn_c (glX11_thing_1 _ (List.mem_of_getElem? (i := 0) rfl)) (goodIn_c (glX11_thing_1 _ (List.mem_of_getElem? (i := 1) rfl)) (goodIn_c (glX11_thing_1 _ (List.mem_of_getElem? (i := 2) rfl)) (goodIn_c (glX11_thing_1 _ (List.mem_of_getElem? (i := 3) rfl)) (goodIn_c (glX11_thing_1 _ (List.mem_of_getElem? (i := 4) rfl)) (goodIn_c (glX11_thing_1 _ (List.mem_of_getElem? (i := 5) rfl)) (goodIn_c (glX11_thing_1 _ (List.mem_of_getElem? (i := 6) rfl)) (goodIn_c (glX11_thing_1 _ (List.mem_of_getElem? (i := 7) rfl)) (goodIn_c (glX11_thing_1 _ (List.mem_of_getElem? (i := 8) rfl)) (goodIn_c (glX11_thing_1 _ (List.mem_of_getElem? (i := 9) rfl)) (goodIn_c (glX11_thing_1 _ (List.mem_of_getElem? (i := 10) rfl)) (goodIn_c (glX11_thing_1 _ (List.mem_of_getElem? (i := 11) rfl)) (goodIn_c (glX11_thing_1 _ (List.mem_of_getElem? (i := 12) rfl)) (goodIn_c (glX11_thing_1 _ (List.mem_of_getElem? (i := 13) rfl)) (goodIn_c (glX11_thing_1 _ (List.mem_of_getElem? (i := 14) rfl)) (goodIn_c (glX11_thing_1 _ (List.mem_of_getElem? (i := 15) rfl)) (goodIn_n))))))))))))))))))))) (glX11_thing_3)) (glX11_thing_4))
set_option maxRecDepth 20000 in
theorem gX11_thing_X0_add : GoodIn wsX11_thing (wsV RX11 112 RX0 yX0_add wsX0_add) := goodIn_app (goodIn_c (glX11_thing_0 _ (List.mem_of_getElem? (i := 18) rfl)) (goodIn_c (glX11_thing_0 _ (List.mem_of_getElem? (i := 19) rfl)) (goodIn_c (glX11_thing_0 _ (List.mem_of_getElem? (i := 20) rfl)) (goodIn_c (glX11_thing_0 _ (List.mem_of_getElem? (i := 13) rfl)) (goodIn_n))))) ggX11_thing_X0_add
theorem dX11_thing_0 : decode cX11_thing 0 = .ok (.iload_n 1, 1) := qdE27 (by decide +kernel)
theorem dX11_thing_1 : decode cX11_thing 1 = .ok (.iconst 0, 1) := qdE3 (by decide +kernel)
theorem dX11_thing_2 : decode cX11_thing 2 = .ok (.sipush 9999, 3) := qdE17 (by decide +kernel)
theorem dX11_thing_5 : decode cX11_thing 5 = .ok (.invokestatic 87, 3) := qdE184 (by decide +kernel)
theorem dX11_thing_8 : decode cX11_thing 8 = .ok (.ifCond .eq 35, 3) := qdE153 (by decide +kernel)
theorem dX11_thing_11 : decode cX11_thing 11 = .ok (.iload_n 2, 1) := qdE28 (by decide +kernel)
theorem dX11_thing_12 : decode cX11_thing 12 = .ok (.iconst 1, 1) := qdE4 (by decide +kernel)
theorem dX11_thing_13 : decode cX11_thing 13 = .ok (.sipush 2000, 3) := qdE17 (by decide +kernel)
theorem dX11_thing_16 : decode cX11_thing 16 = .ok (.invokestatic 87, 3) := qdE184 (by decide +kernel)
theorem dX11_thing_19 : decode cX11_thing 19 = .ok (.ifCond .eq 24, 3) := qdE153 (by decide +kernel)
theorem dX11_thing_22 : decode cX11_thing 22 = .ok (.iload_n 3, 1) := qdE29 (by decide +kernel)
theorem dX11_thing_23 : decode cX11_thing 23 = .ok (.iconst 0, 1) := qdE3 (by decide +kernel)
theorem dX11_thing_24 : decode cX11_thing 24 = .ok (.bipush 7, 2) := qdE16 (by decide +kernel)
theorem dX11_thing_26 : decode cX11_thing 26 = .ok (.invokestatic 87, 3) := qdE184 (by decide +kernel)
theorem dX11_thing_29 : decode cX11_thing 29 = .ok (.ifCond .eq 14, 3) := qdE153 (by decide +kernel)
theorem dX11_thing_32 : decode cX11_thing 32 = .ok (.iload 4, 2) := qdE21 (by decide +kernel)
theorem dX11_thing_34 : decode cX11_thing 34 = .ok (.iconst 1, 1) := qdE4 (by decide +kernel)
theorem dX11_thing_35 : decode cX11_thing 35 = .ok (.bipush 20, 2) := qdE16 (by decide +kernel)
theorem dX11_thing_37 : decode cX11_thing 37 = .ok (.invokestatic 87, 3) := qdE184 (by decide +kernel)
theorem dX11_thing_40 : decode cX11_thing 40 = .ok (.ifCond .ne 13, 3) := qdE154 (by decide +kernel)
theorem dX11_thing_43 : decode cX11_thing 43 = .ok (.new 91, 3) := qdE187 (by decide +kernel)
theorem dX11_thing_46 : decode cX11_thing 46 = .ok (.dup, 1) := qdE89 (by decide +kernel)
theorem dX11_thing_47 : decode cX11_thing 47 = .ok (.ldc 93, 2) := qdE18 (by decide +kernel)
theorem dX11_thing_49 : decode cX11_thing 49 = .ok (.invokespecial 95, 3) := qdE183 (by decide +kernel)
theorem dX11_thing_52 : decode cX11_thing 52 = .ok (.athrow, 1) := qdE191 (by decide +kernel)
theorem dX11_thing_53 : decode cX11_thing 53 = .ok (.aload_n 0, 1) := qdE42 (by decide +kernel)
theorem dX11_thing_54 : decode cX11_thing 54 = .ok (.getfield 19, 3) := qdE180 (by decide +kernel)
theorem dX11_thing_57 : decode cX11_thing 57 = .ok (.iload_n 1, 1) := qdE27 (by decide +kernel)
theorem dX11_thing_58 : decode cX11_thing 58 = .ok (.invokevirtual 98, 3) := qdE182 (by decide +kernel)
theorem dX11_thing_61 : decode cX11_thing 61 = .ok (.ifnull 13, 3) := qdE198 (by decide +kernel)
theorem dX11_thing_64 : decode cX11_thing 64 = .ok (.new 91, 3) := qdE187 (by decide +kernel)
theorem dX11_thing_67 : decode cX11_thing 67 = .ok (.dup, 1) := qdE89 (by decide +kernel)
theorem dX11_thing_68 : decode cX11_thing 68 = .ok (.ldc 102, 2) := qdE18 (by decide +kernel)
theorem dX11_thing_70 : decode cX11_thing 70 = .ok (.invokespecial 95, 3) := qdE183 (by decide +kernel)
theorem dX11_thing_73 : decode cX11_thing 73 = .ok (.athrow, 1) := qdE191 (by decide +kernel)
theorem dX11_thing_74 : decode cX11_thing 74 = .ok (.aload_n 0, 1) := qdE42 (by decide +kernel)
theorem dX11_thing_75 : decode cX11_thing 75 = .ok (.getfield 19, 3) := qdE180 (by decide +kernel)
theorem dX11_thing_78 : decode cX11_thing 78 = .ok (.getfield 104, 3) := qdE180 (by decide +kernel)
theorem dX11_thing_81 : decode cX11_thing 81 = .ok (.bipush 30, 2) := qdE16 (by decide +kernel)
theorem dX11_thing_83 : decode cX11_thing 83 = .ok (.if_icmp .lt 13, 3) := qdE161 (by decide +kernel)
theorem dX11_thing_86 : decode cX11_thing 86 = .ok (.new 107, 3) := qdE187 (by decide +kernel)
theorem dX11_thing_89 : decode cX11_thing 89 = .ok (.dup, 1) := qdE89 (by decide +kernel)
theorem dX11_thing_90 : decode cX11_thing 90 = .ok (.ldc 109, 2) := qdE18 (by decide +kernel)
theorem dX11_thing_92 : decode cX11_thing 92 = .ok (.invokespecial 111, 3) := qdE183 (by decide +kernel)
theorem dX11_thing_95 : decode cX11_thing 95 = .ok (.athrow, 1) := qdE191 (by decide +kernel)
theorem dX11_thing_96 : decode cX11_thing 96 = .ok (.aload_n 0, 1) := qdE42 (by decide +kernel)
theorem dX11_thing_97 : decode cX11_thing 97 = .ok (.getfield 19, 3) := qdE180 (by decide +kernel)
theorem dX11_thing_100 : decode cX11_thing 100 = .ok (.iload_n 1, 1) := qdE27 (by decide +kernel)
theorem dX11_thing_101 : decode cX11_thing 101 = .ok (.iload_n 2, 1) := qdE28 (by decide +kernel)
theorem dX11_thing_102 : decode cX11_thing 102 = .ok (.iload_n 3, 1) := qdE29 (by decide +kernel)
theorem dX11_thing_103 : decode cX11_thing 103 = .ok (.iload 4, 2) := qdE21 (by decide +kernel)
theorem dX11_thing_105 : decode cX11_thing 105 = .ok (.invokevirtual 112, 3) := qdE182 (by decide +kernel)
theorem dX11_thing_108 : decode cX11_thing 108 = .ok (.ireturn, 1) := qdE172 (by decide +kernel)
set_option maxRecDepth 20000 in
theorem ggX11_price_X11_thingAt : GoodIn wsX11_price wsX11_thingAt := goodIn_ca (goodIn_r _ [10, 11, 12, 13, 14, 15, 16, 17, 18, 19, 20, 21, 9, 22, 43, 44, 45, 46, 47, 48, 49, 50, 51, 52, 53, 54, 55, 56, 57, 58, 59, 60] rfl (by decide +kernel)) (goodIn_sub (fun _ h => List.mem_cons_of_mem _ (List.mem_append_right _ h)) (by decide +kernel))
set_option maxRecDepth 20000 in
theorem glX11_price_0 : GoodIn wsX11_price (wsX11_price_r1) := goodIn_sub (fun _ h => List.mem_cons_of_mem _ (List.mem_append_left _ (List.mem_append_left _ (List.mem_append_left _ (List.mem_append_left _ (List.mem_append_left _ (List.mem_append_left _ (List.mem_append_left _ (h))))))))) (by decide +kernel)
set_option maxRecDepth 20000 in
theorem gX11_price_X11_thingAt : GoodIn wsX11_price (wsV RX11 116 RX11 yX11_thingAt wsX11_thingAt) := goodIn_app (goodIn_c (glX11_price_0 _ (List.mem_of_getElem? (i := 5) rfl)) (goodIn_c (glX11_price_0 _ (List.mem_of_getElem? (i := 6) rfl)) (goodIn_c (glX11_price_0 _ (List.mem_of_getElem? (i := 7) rfl)) (goodIn_c (glX11_price_0 _ (List.mem_of_getElem? (i := 8) rfl)) (goodIn_n))))) ggX11_price_X11_thingAt
set_option maxRecDepth 20000 in
theorem ggX11_price_X11_within : GoodIn wsX11_price wsX11_within := goodIn_c (glX11_price_0 _ (List.mem_of_getElem? (i := 21) rfl)) (goodIn_n)
set_option maxRecDepth 20000 in
theorem gX11_price_X11_within : GoodIn wsX11_price (va_wsS RX11 87 yX11_within wsX11_within) := goodIn_app (goodIn_c (glX11_price_0 _ (List.mem_of_getElem? (i := 22) rfl)) (goodIn_c (glX11_price_0 _ (List.mem_of_getElem? (i := 20) rfl)) (goodIn_c (glX11_price_0 _ (List.mem_of_getElem? (i := 8) rfl)) (goodIn_n)))) ggX11_price_X11_within
set_option maxRecDepth 20000 in
theorem glX11_price_1 : GoodIn wsX11_price (wsX11_price_r2) := goodIn_sub (fun _ h => List.mem_cons_of_mem _ (List.mem_append_left _ (List.mem_append_left _ (List.mem_append_left _ (List.mem_append_left _ (List.mem_append_left _ (List.mem_append_left _ (List.mem_append_right _ (h))))))))) (by decide +kernel)
set_option maxRecDepth 20000 in
theorem glX11_price_2 : GoodIn wsX11_price (wsX80) := goodIn_sub (fun _ h => List.mem_cons_of_mem _ (List.mem_append_left _ (List.mem_append_left _ (List.mem_append_left _ (List.mem_append_left _ (List.mem_append_left _ (List.mem_append_right _ (h)))))))) ag_wsX80
set_option maxRecDepth 20000 in
theorem ggX11_price_X8_addPrice : GoodIn wsX11_price wsX8_addPrice := goodIn_c (glX11_price_1 _ (List.mem_of_getElem? (i := 3) rfl)) (goodIn_app (goodIn_c (glX11_price_1 _ (List.mem_of_getElem? (i := 4) rfl)) (goodIn_c (glX11_price_1 _ (List.mem_of_getElem? (i := 5) rfl)) (goodIn_c (glX11_price_1 _ (List.mem_of_getElem? (i := 6) rfl)) (goodIn_c (glX11_price_1 _ (List.mem_of_getElem? (i := 7) rfl)) (goodIn_n))))) (glX11_price_2))
set_option maxRecDepth 20000 in
theorem gX11_price_X8_addPrice : GoodIn wsX11_price (wsV RX11 128 RX8 yX8_addPrice wsX8_addPrice) := goodIn_app (goodIn_c (glX11_price_0 _ (List.mem_of_getElem? (i := 23) rfl)) (goodIn_c (glX11_price_1 _ (List.mem_of_getElem? (i := 0) rfl)) (goodIn_c (glX11_price_1 _ (List.mem_of_getElem? (i := 1) rfl)) (goodIn_c (glX11_price_1 _ (List.mem_of_getElem? (i := 2) rfl)) (goodIn_n))))) ggX11_price_X8_addPrice
theorem dX11_price_0 : decode cX11_price 0 = .ok (.aload_n 0, 1) := qdE42 (by decide +kernel)
theorem dX11_price_1 : decode cX11_price 1 = .ok (.iload_n 1, 1) := qdE27 (by decide +kernel)
theorem dX11_price_2 : decode cX11_price 2 = .ok (.invokevirtual 116, 3) := qdE182 (by decide +kernel)
theorem dX11_price_5 : decode cX11_price 5 = .ok (.astore 5, 2) := qdE58 (by decide +kernel)
theorem dX11_price_7 : decode cX11_price 7 = .ok (.iload_n 2, 1) := qdE28 (by decide +kernel)
theorem dX11_price_8 : decode cX11_price 8 = .ok (.iconst 1, 1) := qdE4 (by decide +kernel)
theorem dX11_price_9 : decode cX11_price 9 = .ok (.sipush 10000, 3) := qdE17 (by decide +kernel)
theorem dX11_price_12 : decode cX11_price 12 = .ok (.invokestatic 87, 3) := qdE184 (by decide +kernel)
theorem dX11_price_15 : decode cX11_price 15 = .ok (.ifCond .eq 26, 3) := qdE153 (by decide +kernel)
theorem dX11_price_18 : decode cX11_price 18 = .ok (.iload_n 3, 1) := qdE29 (by decide +kernel)
theorem dX11_price_19 : decode cX11_price 19 = .ok (.iconst 0, 1) := qdE3 (by decide +kernel)
theorem dX11_price_20 : decode cX11_price 20 = .ok (.sipush 999, 3) := qdE17 (by decide +kernel)
theorem dX11_price_23 : decode cX11_price 23 = .ok (.invokestatic 87, 3) := qdE184 (by decide +kernel)
theorem dX11_price_26 : decode cX11_price 26 = .ok (.ifCond .eq 15, 3) := qdE153 (by decide +kernel)
theorem dX11_price_29 : decode cX11_price 29 = .ok (.iload 4, 2) := qdE21 (by decide +kernel)
theorem dX11_price_31 : decode cX11_price 31 = .ok (.iload_n 3, 1) := qdE29 (by decide +kernel)
theorem dX11_price_32 : decode cX11_price 32 = .ok (.sipush 999, 3) := qdE17 (by decide +kernel)
theorem dX11_price_35 : decode cX11_price 35 = .ok (.invokestatic 87, 3) := qdE184 (by decide +kernel)
theorem dX11_price_38 : decode cX11_price 38 = .ok (.ifCond .ne 13, 3) := qdE154 (by decide +kernel)
theorem dX11_price_41 : decode cX11_price 41 = .ok (.new 91, 3) := qdE187 (by decide +kernel)
theorem dX11_price_44 : decode cX11_price 44 = .ok (.dup, 1) := qdE89 (by decide +kernel)
theorem dX11_price_45 : decode cX11_price 45 = .ok (.ldc 119, 2) := qdE18 (by decide +kernel)
theorem dX11_price_47 : decode cX11_price 47 = .ok (.invokespecial 95, 3) := qdE183 (by decide +kernel)
theorem dX11_price_50 : decode cX11_price 50 = .ok (.athrow, 1) := qdE191 (by decide +kernel)
theorem dX11_price_51 : decode cX11_price 51 = .ok (.aload 5, 2) := qdE25 (by decide +kernel)
theorem dX11_price_53 : decode cX11_price 53 = .ok (.getfield 121, 3) := qdE180 (by decide +kernel)
theorem dX11_price_56 : decode cX11_price 56 = .ok (.iconst 4, 1) := qdE7 (by decide +kernel)
theorem dX11_price_57 : decode cX11_price 57 = .ok (.if_icmp .lt 13, 3) := qdE161 (by decide +kernel)
theorem dX11_price_60 : decode cX11_price 60 = .ok (.new 107, 3) := qdE187 (by decide +kernel)
theorem dX11_price_63 : decode cX11_price 63 = .ok (.dup, 1) := qdE89 (by decide +kernel)
theorem dX11_price_64 : decode cX11_price 64 = .ok (.ldc 126, 2) := qdE18 (by decide +kernel)
theorem dX11_price_66 : decode cX11_price 66 = .ok (.invokespecial 111, 3) := qdE183 (by decide +kernel)
theorem dX11_price_69 : decode cX11_price 69 = .ok (.athrow, 1) := qdE191 (by decide +kernel)
theorem dX11_price_70 : decode cX11_price 70 = .ok (.aload 5, 2) := qdE25 (by decide +kernel)
theorem dX11_price_72 : decode cX11_price 72 = .ok (.iload_n 2, 1) := qdE28 (by decide +kernel)
theorem dX11_price_73 : decode cX11_price 73 = .ok (.iload_n 3, 1) := qdE29 (by decide +kernel)
theorem dX11_price_74 : decode cX11_price 74 = .ok (.iload 4, 2) := qdE21 (by decide +kernel)
theorem dX11_price_76 : decode cX11_price 76 = .ok (.invokevirtual 128, 3) := qdE182 (by decide +kernel)
theorem dX11_price_79 : decode cX11_price 79 = .ok (.ireturn, 1) := qdE172 (by decide +kernel)
set_option maxRecDepth 20000 in
theorem ggX11_costs_X11_thingAt : GoodIn wsX11_costs wsX11_thingAt := goodIn_ca (goodIn_r _ [5, 6, 7, 8, 9, 10, 11, 12, 13, 14, 15, 16, 4, 17, 27, 28, 29, 30, 31, 32, 33, 34, 35, 36, 37, 38, 39, 40, 41, 42, 43, 44] rfl (by decide +kernel)) (goodIn_sub (fun _ h => List.mem_cons_of_mem _ (List.mem_append_right _ h)) (by decide +kernel))
set_option maxRecDepth 20000 in
theorem glX11_costs_0 : GoodIn wsX11_costs (wsX11_costs_r1) := goodIn_sub (fun _ h => List.mem_cons_of_mem _ (List.mem_append_left _ (List.mem_append_left _ (List.mem_append_left _ (List.mem_append_left _ (List.mem_append_left _ (h))))))) (by decide +kernel)
set_option maxRecDepth 20000 in
theorem gX11_costs_X11_thingAt : GoodIn wsX11_costs (wsV RX11 116 RX11 yX11_thingAt wsX11_thingAt) := goodIn_app (goodIn_c (glX11_costs_0 _ (List.mem_of_getElem? (i := 0) rfl)) (goodIn_c (glX11_costs_0 _ (List.mem_of_getElem? (i := 1) rfl)) (goodIn_c (glX11_costs_0 _ (List.mem_of_getElem? (i := 2) rfl)) (goodIn_c (glX11_costs_0 _ (List.mem_of_getElem? (i := 3) rfl)) (goodIn_n))))) ggX11_costs_X11_thingAt
set_option maxRecDepth 20000 in
theorem glX11_costs_1 : GoodIn wsX11_costs (wsX11_costs_r2) := goodIn_sub (fun _ h => List.mem_cons_of_mem _ (List.mem_append_left _ (List.mem_append_left _ (List.mem_append_left _ (List.mem_append_left _ (List.mem_append_right _ (h))))))) (by decide +kernel)
set_option maxRecDepth 20000 in
theorem glX11_costs_4 : GoodIn wsX11_costs (wsX80) := goodIn_sub (fun _ h => List.mem_cons_of_mem _ (List.mem_append_left _ (List.mem_append_right _ (h)))) ag_wsX80
set_option maxRecDepth 20000 in
theorem ggX11_costs_X8_moneyOn : GoodIn wsX11_costs wsX8_moneyOn := goodIn_c (glX11_costs_0 _ (List.mem_of_getElem? (i := 21) rfl)) (goodIn_app (goodIn_c (glX11_costs_0 _ (List.mem_of_getElem? (i := 22) rfl)) (goodIn_c (glX11_costs_0 _ (List.mem_of_getElem? (i := 23) rfl)) (goodIn_c (glX11_costs_1 _ (List.mem_of_getElem? (i := 0) rfl)) (goodIn_c (glX11_costs_1 _ (List.mem_of_getElem? (i := 1) rfl)) (goodIn_c (glX11_costs_0 _ (List.mem_of_getElem? (i := 15) rfl)) (goodIn_c (glX11_costs_0 _ (List.mem_of_getElem? (i := 3) rfl)) (goodIn_c (glX11_costs_0 _ (List.mem_of_getElem? (i := 16) rfl)) (goodIn_n)))))))) (glX11_costs_4))
set_option maxRecDepth 20000 in
theorem gX11_costs_X8_moneyOn : GoodIn wsX11_costs (wsV RX11 132 RX8 yX8_moneyOn wsX8_moneyOn) := goodIn_app (goodIn_c (glX11_costs_0 _ (List.mem_of_getElem? (i := 17) rfl)) (goodIn_c (glX11_costs_0 _ (List.mem_of_getElem? (i := 18) rfl)) (goodIn_c (glX11_costs_0 _ (List.mem_of_getElem? (i := 19) rfl)) (goodIn_c (glX11_costs_0 _ (List.mem_of_getElem? (i := 20) rfl)) (goodIn_n))))) ggX11_costs_X8_moneyOn
theorem dX11_costs_0 : decode cX11_costs 0 = .ok (.aload_n 0, 1) := qdE42 (by decide +kernel)
theorem dX11_costs_1 : decode cX11_costs 1 = .ok (.iload_n 1, 1) := qdE27 (by decide +kernel)
theorem dX11_costs_2 : decode cX11_costs 2 = .ok (.invokevirtual 116, 3) := qdE182 (by decide +kernel)
theorem dX11_costs_5 : decode cX11_costs 5 = .ok (.iload_n 2, 1) := qdE28 (by decide +kernel)
theorem dX11_costs_6 : decode cX11_costs 6 = .ok (.invokevirtual 132, 3) := qdE182 (by decide +kernel)
theorem dX11_costs_9 : decode cX11_costs 9 = .ok (.ireturn, 1) := qdE172 (by decide +kernel)
set_option maxRecDepth 20000 in
theorem ggX11_coming_X11_thingAt : GoodIn wsX11_coming wsX11_thingAt := goodIn_ca (goodIn_r _ [12, 13, 14, 15, 16, 17, 18, 19, 20, 21, 22, 23, 11, 24, 35, 36, 37, 38, 39, 40, 41, 42, 43, 44, 45, 46, 47, 48, 49, 50, 55, 56] rfl (by decide +kernel)) (goodIn_sub (fun _ h => List.mem_cons_of_mem _ (List.mem_append_right _ h)) (by decide +kernel))
set_option maxRecDepth 20000 in
theorem glX11_coming_0 : GoodIn wsX11_coming (wsX11_coming_r1) := goodIn_sub (fun _ h => List.mem_cons_of_mem _ (List.mem_append_left _ (List.mem_append_left _ (List.mem_append_left _ (List.mem_append_left _ (List.mem_append_left _ (List.mem_append_left _ (List.mem_append_left _ (h))))))))) (by decide +kernel)
set_option maxRecDepth 20000 in
theorem gX11_coming_X11_thingAt : GoodIn wsX11_coming (wsV RX11 116 RX11 yX11_thingAt wsX11_thingAt) := goodIn_app (goodIn_c (glX11_coming_0 _ (List.mem_of_getElem? (i := 7) rfl)) (goodIn_c (glX11_coming_0 _ (List.mem_of_getElem? (i := 8) rfl)) (goodIn_c (glX11_coming_0 _ (List.mem_of_getElem? (i := 9) rfl)) (goodIn_c (glX11_coming_0 _ (List.mem_of_getElem? (i := 10) rfl)) (goodIn_n))))) ggX11_coming_X11_thingAt
set_option maxRecDepth 20000 in
theorem ggX11_coming_X11_within : GoodIn wsX11_coming wsX11_within := goodIn_c (glX11_coming_0 _ (List.mem_of_getElem? (i := 23) rfl)) (goodIn_n)
set_option maxRecDepth 20000 in
theorem glX11_coming_1 : GoodIn wsX11_coming (wsX11_coming_r2) := goodIn_sub (fun _ h => List.mem_cons_of_mem _ (List.mem_append_left _ (List.mem_append_left _ (List.mem_append_left _ (List.mem_append_left _ (List.mem_append_left _ (List.mem_append_left _ (List.mem_append_right _ (h))))))))) (by decide +kernel)
set_option maxRecDepth 20000 in
theorem gX11_coming_X11_within : GoodIn wsX11_coming (va_wsS RX11 87 yX11_within wsX11_within) := goodIn_app (goodIn_c (glX11_coming_1 _ (List.mem_of_getElem? (i := 0) rfl)) (goodIn_c (glX11_coming_0 _ (List.mem_of_getElem? (i := 22) rfl)) (goodIn_c (glX11_coming_0 _ (List.mem_of_getElem? (i := 10) rfl)) (goodIn_n)))) ggX11_coming_X11_within
set_option maxRecDepth 20000 in
theorem glX11_coming_3 : GoodIn wsX11_coming (wsX10) := goodIn_sub (fun _ h => List.mem_cons_of_mem _ (List.mem_append_left _ (List.mem_append_left _ (List.mem_append_left _ (List.mem_append_left _ (List.mem_append_right _ (h))))))) ag_wsX10
set_option maxRecDepth 20000 in
theorem ggX11_coming_X1_add : GoodIn wsX11_coming wsX1_add := goodIn_c (glX11_coming_1 _ (List.mem_of_getElem? (i := 5) rfl)) (goodIn_app (goodIn_c (glX11_coming_1 _ (List.mem_of_getElem? (i := 6) rfl)) (goodIn_c (glX11_coming_1 _ (List.mem_of_getElem? (i := 7) rfl)) (goodIn_c (glX11_coming_1 _ (List.mem_of_getElem? (i := 8) rfl)) (goodIn_c (glX11_coming_1 _ (List.mem_of_getElem? (i := 9) rfl)) (goodIn_n))))) (glX11_coming_3))
set_option maxRecDepth 20000 in
theorem gX11_coming_X1_add : GoodIn wsX11_coming (wsV RX11 144 RX1 yX1_add wsX1_add) := goodIn_app (goodIn_c (glX11_coming_1 _ (List.mem_of_getElem? (i := 1) rfl)) (goodIn_c (glX11_coming_1 _ (List.mem_of_getElem? (i := 2) rfl)) (goodIn_c (glX11_coming_1 _ (List.mem_of_getElem? (i := 3) rfl)) (goodIn_c (glX11_coming_1 _ (List.mem_of_getElem? (i := 4) rfl)) (goodIn_n))))) ggX11_coming_X1_add
theorem dX11_coming_0 : decode cX11_coming 0 = .ok (.aload_n 0, 1) := qdE42 (by decide +kernel)
theorem dX11_coming_1 : decode cX11_coming 1 = .ok (.iload_n 1, 1) := qdE27 (by decide +kernel)
theorem dX11_coming_2 : decode cX11_coming 2 = .ok (.invokevirtual 116, 3) := qdE182 (by decide +kernel)
theorem dX11_coming_5 : decode cX11_coming 5 = .ok (.astore 4, 2) := qdE58 (by decide +kernel)
theorem dX11_coming_7 : decode cX11_coming 7 = .ok (.iload_n 2, 1) := qdE28 (by decide +kernel)
theorem dX11_coming_8 : decode cX11_coming 8 = .ok (.aload_n 0, 1) := qdE42 (by decide +kernel)
theorem dX11_coming_9 : decode cX11_coming 9 = .ok (.getfield 136, 3) := qdE180 (by decide +kernel)
theorem dX11_coming_12 : decode cX11_coming 12 = .ok (.iconst 1, 1) := qdE4 (by decide +kernel)
theorem dX11_coming_13 : decode cX11_coming 13 = .ok (.iadd, 1) := qdE96 (by decide +kernel)
theorem dX11_coming_14 : decode cX11_coming 14 = .ok (.sipush 999, 3) := qdE17 (by decide +kernel)
theorem dX11_coming_17 : decode cX11_coming 17 = .ok (.invokestatic 87, 3) := qdE184 (by decide +kernel)
theorem dX11_coming_20 : decode cX11_coming 20 = .ok (.ifCond .eq 14, 3) := qdE153 (by decide +kernel)
theorem dX11_coming_23 : decode cX11_coming 23 = .ok (.iload_n 3, 1) := qdE29 (by decide +kernel)
theorem dX11_coming_24 : decode cX11_coming 24 = .ok (.iconst 1, 1) := qdE4 (by decide +kernel)
theorem dX11_coming_25 : decode cX11_coming 25 = .ok (.sipush 10000, 3) := qdE17 (by decide +kernel)
theorem dX11_coming_28 : decode cX11_coming 28 = .ok (.invokestatic 87, 3) := qdE184 (by decide +kernel)
theorem dX11_coming_31 : decode cX11_coming 31 = .ok (.ifCond .ne 13, 3) := qdE154 (by decide +kernel)
theorem dX11_coming_34 : decode cX11_coming 34 = .ok (.new 91, 3) := qdE187 (by decide +kernel)
theorem dX11_coming_37 : decode cX11_coming 37 = .ok (.dup, 1) := qdE89 (by decide +kernel)
theorem dX11_coming_38 : decode cX11_coming 38 = .ok (.ldc 139, 2) := qdE18 (by decide +kernel)
theorem dX11_coming_40 : decode cX11_coming 40 = .ok (.invokespecial 95, 3) := qdE183 (by decide +kernel)
theorem dX11_coming_43 : decode cX11_coming 43 = .ok (.athrow, 1) := qdE191 (by decide +kernel)
theorem dX11_coming_44 : decode cX11_coming 44 = .ok (.aload_n 0, 1) := qdE42 (by decide +kernel)
theorem dX11_coming_45 : decode cX11_coming 45 = .ok (.getfield 26, 3) := qdE180 (by decide +kernel)
theorem dX11_coming_48 : decode cX11_coming 48 = .ok (.getfield 141, 3) := qdE180 (by decide +kernel)
theorem dX11_coming_51 : decode cX11_coming 51 = .ok (.bipush 60, 2) := qdE16 (by decide +kernel)
theorem dX11_coming_53 : decode cX11_coming 53 = .ok (.if_icmp .lt 13, 3) := qdE161 (by decide +kernel)
theorem dX11_coming_56 : decode cX11_coming 56 = .ok (.new 107, 3) := qdE187 (by decide +kernel)
theorem dX11_coming_59 : decode cX11_coming 59 = .ok (.dup, 1) := qdE89 (by decide +kernel)
theorem dX11_coming_60 : decode cX11_coming 60 = .ok (.ldc 142, 2) := qdE18 (by decide +kernel)
theorem dX11_coming_62 : decode cX11_coming 62 = .ok (.invokespecial 111, 3) := qdE183 (by decide +kernel)
theorem dX11_coming_65 : decode cX11_coming 65 = .ok (.athrow, 1) := qdE191 (by decide +kernel)
theorem dX11_coming_66 : decode cX11_coming 66 = .ok (.aload_n 0, 1) := qdE42 (by decide +kernel)
theorem dX11_coming_67 : decode cX11_coming 67 = .ok (.getfield 26, 3) := qdE180 (by decide +kernel)
theorem dX11_coming_70 : decode cX11_coming 70 = .ok (.aload 4, 2) := qdE25 (by decide +kernel)
theorem dX11_coming_72 : decode cX11_coming 72 = .ok (.iload_n 2, 1) := qdE28 (by decide +kernel)
theorem dX11_coming_73 : decode cX11_coming 73 = .ok (.iload_n 3, 1) := qdE29 (by decide +kernel)
theorem dX11_coming_74 : decode cX11_coming 74 = .ok (.invokevirtual 144, 3) := qdE182 (by decide +kernel)
theorem dX11_coming_77 : decode cX11_coming 77 = .ok (.ireturn, 1) := qdE172 (by decide +kernel)
set_option maxRecDepth 20000 in
theorem ggX11_stock_X11_thingAt : GoodIn wsX11_stock wsX11_thingAt := goodIn_ca (goodIn_r _ [6, 7, 8, 9, 10, 11, 12, 13, 14, 15, 16, 17, 5, 18, 29, 30, 31, 32, 33, 34, 35, 36, 37, 38, 39, 40, 41, 42, 43, 44, 45, 46] rfl (by decide +kernel)) (goodIn_sub (fun _ h => List.mem_cons_of_mem _ (List.mem_append_right _ h)) (by decide +kernel))
set_option maxRecDepth 20000 in
theorem glX11_stock_0 : GoodIn wsX11_stock ([Cond.fieldLink RX11 147 "PostHouse$Thing" "stock" "I", Cond.methodLink RX11 116 yX11_thingAt, Cond.instanceMethod yX11_thingAt, Cond.selects RX11 yX11_thingAt yX11_thingAt, Cond.initialized RX11, Cond.code yX11_thingAt cX11_thingAt 3 (some (.object "PostHouse$Thing")), Cond.classLink RX11 322 "java/lang/IndexOutOfBoundsException", Cond.initialized "java/lang/IndexOutOfBoundsException", Cond.fieldLink RX11 19 "PostHouse" "book" "LPostHouse$Book;", Cond.methodLink RX11 378 yX0_at, Cond.instanceMethod yX0_at, Cond.selects RX0 yX0_at yX0_at, Cond.initialized RX0, Cond.code yX0_at cX0_at 2 (some (.object "PostHouse$Thing")), Cond.fieldLink RX0 17 "PostHouse$Book" "size" "I", Cond.fieldLink RX0 11 "PostHouse$Book" "things" "[LPostHouse$Thing;", Cond.static yX11_within, Cond.code yX11_within cX11_within 3 (some .boolean)]) := goodIn_sub (fun _ h => List.mem_cons_of_mem _ (List.mem_append_left _ (List.mem_append_left _ (List.mem_append_left _ (List.mem_append_left _ (h)))))) (by decide +kernel)
set_option maxRecDepth 20000 in
theorem gX11_stock_X11_thingAt : GoodIn wsX11_stock (wsV RX11 116 RX11 yX11_thingAt wsX11_thingAt) := goodIn_app (goodIn_c (glX11_stock_0 _ (List.mem_of_getElem? (i := 1) rfl)) (goodIn_c (glX11_stock_0 _ (List.mem_of_getElem? (i := 2) rfl)) (goodIn_c (glX11_stock_0 _ (List.mem_of_getElem? (i := 3) rfl)) (goodIn_c (glX11_stock_0 _ (List.mem_of_getElem? (i := 4) rfl)) (goodIn_n))))) ggX11_stock_X11_thingAt
theorem dX11_stock_0 : decode cX11_stock 0 = .ok (.aload_n 0, 1) := qdE42 (by decide +kernel)
theorem dX11_stock_1 : decode cX11_stock 1 = .ok (.iload_n 1, 1) := qdE27 (by decide +kernel)
theorem dX11_stock_2 : decode cX11_stock 2 = .ok (.invokevirtual 116, 3) := qdE182 (by decide +kernel)
theorem dX11_stock_5 : decode cX11_stock 5 = .ok (.getfield 147, 3) := qdE180 (by decide +kernel)
theorem dX11_stock_8 : decode cX11_stock 8 = .ok (.ireturn, 1) := qdE172 (by decide +kernel)
set_option maxRecDepth 20000 in
theorem glX11_rules_0 : GoodIn wsX11_rules (wsX11_rules_r1) := goodIn_sub (fun _ h => List.mem_cons_of_mem _ (List.mem_append_left _ (List.mem_append_left _ (List.mem_append_left _ (List.mem_append_left _ (List.mem_append_left _ (List.mem_append_left _ (List.mem_append_left _ (h))))))))) (by decide +kernel)
set_option maxRecDepth 20000 in
theorem glX11_rules_8 : GoodIn wsX11_rules (wsX50) := goodIn_sub (fun _ h => List.mem_cons_of_mem _ (List.mem_append_left _ (List.mem_append_left _ (List.mem_append_left _ (List.mem_append_left _ (List.mem_append_right _ (h))))))) ag_wsX50
set_option maxRecDepth 20000 in
theorem ggX11_rules_X5_copy : GoodIn wsX11_rules wsX5_copy := goodIn_c (glX11_rules_0 _ (List.mem_of_getElem? (i := 10) rfl)) (goodIn_app (goodIn_c (glX11_rules_0 _ (List.mem_of_getElem? (i := 11) rfl)) (goodIn_c (glX11_rules_0 _ (List.mem_of_getElem? (i := 12) rfl)) (goodIn_c (glX11_rules_0 _ (List.mem_of_getElem? (i := 13) rfl)) (goodIn_c (glX11_rules_0 _ (List.mem_of_getElem? (i := 14) rfl)) (goodIn_c (glX11_rules_0 _ (List.mem_of_getElem? (i := 15) rfl)) (goodIn_c (glX11_rules_0 _ (List.mem_of_getElem? (i := 16) rfl)) (goodIn_n))))))) (glX11_rules_8))
set_option maxRecDepth 20000 in
theorem gX11_rules_X5_copy : GoodIn wsX11_rules (wsV RX11 150 RX5 yX5_copy wsX5_copy) := goodIn_app (goodIn_c (glX11_rules_0 _ (List.mem_of_getElem? (i := 6) rfl)) (goodIn_c (glX11_rules_0 _ (List.mem_of_getElem? (i := 7) rfl)) (goodIn_c (glX11_rules_0 _ (List.mem_of_getElem? (i := 8) rfl)) (goodIn_c (glX11_rules_0 _ (List.mem_of_getElem? (i := 9) rfl)) (goodIn_n))))) ggX11_rules_X5_copy
set_option maxRecDepth 20000 in
theorem glX11_rules_1 : GoodIn wsX11_rules (wsX11_rules_r2) := goodIn_sub (fun _ h => List.mem_cons_of_mem _ (List.mem_append_left _ (List.mem_append_left _ (List.mem_append_left _ (List.mem_append_left _ (List.mem_append_left _ (List.mem_append_left _ (List.mem_append_right _ (List.mem_append_left _ (h)))))))))) (by decide +kernel)
set_option maxRecDepth 20000 in
theorem glX11_rules_9 : GoodIn wsX11_rules (wsX70) := goodIn_sub (fun _ h => List.mem_cons_of_mem _ (List.mem_append_left _ (List.mem_append_left _ (List.mem_append_left _ (List.mem_append_right _ (h)))))) ag_wsX70
set_option maxRecDepth 20000 in
theorem ggX11_rules_X7_open : GoodIn wsX11_rules wsX7_open := goodIn_c (glX11_rules_0 _ (List.mem_of_getElem? (i := 21) rfl)) (goodIn_app (goodIn_c (glX11_rules_0 _ (List.mem_of_getElem? (i := 22) rfl)) (goodIn_c (glX11_rules_0 _ (List.mem_of_getElem? (i := 23) rfl)) (goodIn_c (glX11_rules_1 _ (List.mem_of_getElem? (i := 0) rfl)) (goodIn_c (glX11_rules_1 _ (List.mem_of_getElem? (i := 1) rfl)) (goodIn_c (glX11_rules_1 _ (List.mem_of_getElem? (i := 2) rfl)) (goodIn_c (glX11_rules_0 _ (List.mem_of_getElem? (i := 20) rfl)) (goodIn_c (glX11_rules_1 _ (List.mem_of_getElem? (i := 3) rfl)) (goodIn_c (glX11_rules_1 _ (List.mem_of_getElem? (i := 4) rfl)) (goodIn_c (glX11_rules_1 _ (List.mem_of_getElem? (i := 5) rfl)) (goodIn_n)))))))))) (glX11_rules_9))
set_option maxRecDepth 20000 in
theorem gX11_rules_X7_open : GoodIn wsX11_rules (wsV RX11 154 RX7 yX7_open wsX7_open) := goodIn_app (goodIn_c (glX11_rules_0 _ (List.mem_of_getElem? (i := 17) rfl)) (goodIn_c (glX11_rules_0 _ (List.mem_of_getElem? (i := 18) rfl)) (goodIn_c (glX11_rules_0 _ (List.mem_of_getElem? (i := 19) rfl)) (goodIn_c (glX11_rules_0 _ (List.mem_of_getElem? (i := 20) rfl)) (goodIn_n))))) ggX11_rules_X7_open
set_option maxRecDepth 20000 in
theorem glX11_rules_2 : GoodIn wsX11_rules (wsX11_rules_r3) := goodIn_sub (fun _ h => List.mem_cons_of_mem _ (List.mem_append_left _ (List.mem_append_left _ (List.mem_append_left _ (List.mem_append_left _ (List.mem_append_left _ (List.mem_append_left _ (List.mem_append_right _ (List.mem_append_right _ (List.mem_append_left _ (h))))))))))) (by decide +kernel)
set_option maxRecDepth 20000 in
theorem glX11_rules_3 : GoodIn wsX11_rules (wsX11_rules_r4) := goodIn_sub (fun _ h => List.mem_cons_of_mem _ (List.mem_append_left _ (List.mem_append_left _ (List.mem_append_left _ (List.mem_append_left _ (List.mem_append_left _ (List.mem_append_left _ (List.mem_append_right _ (List.mem_append_right _ (List.mem_append_right _ (List.mem_append_left _ (h)))))))))))) (by decide +kernel)
set_option maxRecDepth 20000 in
theorem glX11_rules_4 : GoodIn wsX11_rules (wsX11_rules_r5) := goodIn_sub (fun _ h => List.mem_cons_of_mem _ (List.mem_append_left _ (List.mem_append_left _ (List.mem_append_left _ (List.mem_append_left _ (List.mem_append_left _ (List.mem_append_left _ (List.mem_append_right _ (List.mem_append_right _ (List.mem_append_right _ (List.mem_append_right _ (List.mem_append_left _ (h))))))))))))) (by decide +kernel)
set_option maxRecDepth 20000 in
theorem glX11_rules_5 : GoodIn wsX11_rules (wsX11_rules_r6) := goodIn_sub (fun _ h => List.mem_cons_of_mem _ (List.mem_append_left _ (List.mem_append_left _ (List.mem_append_left _ (List.mem_append_left _ (List.mem_append_left _ (List.mem_append_left _ (List.mem_append_right _ (List.mem_append_right _ (List.mem_append_right _ (List.mem_append_right _ (List.mem_append_right _ (List.mem_append_left _ (h)))))))))))))) (by decide +kernel)
set_option maxRecDepth 20000 in
theorem glX11_rules_7 : GoodIn wsX11_rules (wsX110) := goodIn_sub (fun _ h => List.mem_cons_of_mem _ (List.mem_append_left _ (List.mem_append_left _ (List.mem_append_left _ (List.mem_append_left _ (List.mem_append_left _ (List.mem_append_right _ (h)))))))) ag_wsX110
set_option maxRecDepth 20000 in
theorem glX11_rules_10 : GoodIn wsX11_rules (wsX80) := goodIn_sub (fun _ h => List.mem_cons_of_mem _ (List.mem_append_left _ (List.mem_append_left _ (List.mem_append_right _ (h))))) ag_wsX80
set_option maxRecDepth 20000 in
theorem glX11_rules_11 : GoodIn wsX11_rules (wsX00) := goodIn_sub (fun _ h => List.mem_cons_of_mem _ (List.mem_append_left _ (List.mem_append_right _ (h)))) ag_wsX00
set_option maxRecDepth 20000 in
theorem ggX11_rules_X11_readRule : GoodIn wsX11_rules wsX11_readRule := goodIn_c (glX11_rules_1 _ (List.mem_of_getElem? (i := 10) rfl)) (goodIn_app (goodIn_app (goodIn_app (goodIn_app (goodIn_app (goodIn_app (goodIn_c (glX11_rules_0 _ (List.mem_of_getElem? (i := 4) rfl)) (goodIn_c (glX11_rules_1 _ (List.mem_of_getElem? (i := 11) rfl)) (goodIn_c (glX11_rules_0 _ (List.mem_of_getElem? (i := 2) rfl)) (goodIn_c (glX11_rules_1 _ (List.mem_of_getElem? (i := 12) rfl)) (goodIn_c (glX11_rules_1 _ (List.mem_of_getElem? (i := 13) rfl)) (goodIn_c (glX11_rules_1 _ (List.mem_of_getElem? (i := 14) rfl)) (goodIn_c (glX11_rules_1 _ (List.mem_of_getElem? (i := 15) rfl)) (goodIn_c (glX11_rules_1 _ (List.mem_of_getElem? (i := 16) rfl)) (goodIn_c (glX11_rules_0 _ (List.mem_of_getElem? (i := 20) rfl)) (goodIn_c (glX11_rules_1 _ (List.mem_of_getElem? (i := 17) rfl)) (goodIn_c (glX11_rules_0 _ (List.mem_of_getElem? (i := 23) rfl)) (goodIn_c (glX11_rules_1 _ (List.mem_of_getElem? (i := 4) rfl)) (goodIn_c (glX11_rules_1 _ (List.mem_of_getElem? (i := 5) rfl)) (goodIn_c (glX11_rules_1 _ (List.mem_of_getElem? (i := 18) rfl)) (goodIn_c (glX11_rules_1 _ (List.mem_of_getElem? (i := 19) rfl)) (goodIn_c (glX11_rules_1 _ (List.mem_of_getElem? (i := 20) rfl)) (goodIn_c (glX11_rules_1 _ (List.mem_of_getElem? (i := 21) rfl)) (goodIn_c (glX11_rules_1 _ (List.mem_of_getElem? (i := 22) rfl)) (goodIn_c (glX11_rules_1 _ (List.mem_of_getElem? (i := 23) rfl)) (goodIn_c (glX11_rules_2 _ (List.mem_of_getElem? (i := 0) rfl)) (goodIn_c (glX11_rules_2 _ (List.mem_of_getElem? (i := 1) rfl)) (goodIn_c (glX11_rules_2 _ (List.mem_of_getElem? (i := 2) rfl)) (goodIn_c (glX11_rules_2 _ (List.mem_of_getElem? (i := 3) rfl)) (goodIn_c (glX11_rules_2 _ (List.mem_of_getElem? (i := 4) rfl)) (goodIn_n))))))))))))))))))))))))) (goodIn_app (goodIn_c (glX11_rules_2 _ (List.mem_of_getElem? (i := 5) rfl)) (goodIn_c (glX11_rules_2 _ (List.mem_of_getElem? (i := 6) rfl)) (goodIn_c (glX11_rules_2 _ (List.mem_of_getElem? (i := 7) rfl)) (goodIn_c (glX11_rules_2 _ (List.mem_of_getElem? (i := 8) rfl)) (goodIn_c (glX11_rules_2 _ (List.mem_of_getElem? (i := 9) rfl)) (goodIn_c (glX11_rules_2 _ (List.mem_of_getElem? (i := 10) rfl)) (goodIn_c (glX11_rules_2 _ (List.mem_of_getElem? (i := 11) rfl)) (goodIn_c (glX11_rules_2 _ (List.mem_of_getElem? (i := 12) rfl)) (goodIn_c (glX11_rules_2 _ (List.mem_of_getElem? (i := 13) rfl)) (goodIn_c (glX11_rules_2 _ (List.mem_of_getElem? (i := 14) rfl)) (goodIn_c (glX11_rules_2 _ (List.mem_of_getElem? (i := 15) rfl)) (goodIn_c (glX11_rules_2 _ (List.mem_of_getElem? (i := 16) rfl)) (goodIn_c (glX11_rules_2 _ (List.mem_of_getElem? (i := 17) rfl)) (goodIn_c (glX11_rules_2 _ (List.mem_of_getElem? (i := 18) rfl)) (goodIn_c (glX11_rules_2 _ (List.mem_of_getElem? (i := 19) rfl)) (goodIn_c (glX11_rules_2 _ (List.mem_of_getElem? (i := 20) rfl)) (goodIn_c (glX11_rules_2 _ (List.mem_of_getElem? (i := 21) rfl)) (goodIn_c (glX11_rules_2 _ (List.mem_of_getElem? (i := 22) rfl)) (goodIn_c (glX11_rules_2 _ (List.mem_of_getElem? (i := 23) rfl)) (goodIn_c (glX11_rules_3 _ (List.mem_of_getElem? (i := 0) rfl)) (goodIn_c (glX11_rules_3 _ (List.mem_of_getElem? (i := 1) rfl)) (goodIn_c (glX11_rules_3 _ (List.mem_of_getElem? (i := 2) rfl)) (goodIn_c (glX11_rules_3 _ (List.mem_of_getElem? (i := 3) rfl)) (goodIn_c (glX11_rules_3 _ (List.mem_of_getElem? (i := 4) rfl)) (goodIn_n))))))))))))))))))))))))) (goodIn_app (goodIn_c (glX11_rules_3 _ (List.mem_of_getElem? (i := 5) rfl)) (goodIn_c (glX11_rules_3 _ (List.mem_of_getElem? (i := 6) rfl)) (goodIn_c (glX11_rules_3 _ (List.mem_of_getElem? (i := 7) rfl)) (goodIn_c (glX11_rules_3 _ (List.mem_of_getElem? (i := 8) rfl)) (goodIn_c (glX11_rules_3 _ (List.mem_of_getElem? (i := 9) rfl)) (goodIn_c (glX11_rules_3 _ (List.mem_of_getElem? (i := 10) rfl)) (goodIn_c (glX11_rules_3 _ (List.mem_of_getElem? (i := 11) rfl)) (goodIn_c (glX11_rules_3 _ (List.mem_of_getElem? (i := 12) rfl)) (goodIn_c (glX11_rules_3 _ (List.mem_of_getElem? (i := 13) rfl)) (goodIn_c (glX11_rules_3 _ (List.mem_of_getElem? (i := 14) rfl)) (goodIn_c (glX11_rules_3 _ (List.mem_of_getElem? (i := 15) rfl)) (goodIn_c (glX11_rules_3 _ (List.mem_of_getElem? (i := 16) rfl)) (goodIn_c (glX11_rules_3 _ (List.mem_of_getElem? (i := 17) rfl)) (goodIn_c (glX11_rules_3 _ (List.mem_of_getElem? (i := 18) rfl)) (goodIn_c (glX11_rules_3 _ (List.mem_of_getElem? (i := 19) rfl)) (goodIn_c (glX11_rules_3 _ (List.mem_of_getElem? (i := 20) rfl)) (goodIn_c (glX11_rules_3 _ (List.mem_of_getElem? (i := 21) rfl)) (goodIn_c (glX11_rules_3 _ (List.mem_of_getElem? (i := 22) rfl)) (goodIn_c (glX11_rules_1 _ (List.mem_of_getElem? (i := 0) rfl)) (goodIn_c (glX11_rules_1 _ (List.mem_of_getElem? (i := 1) rfl)) (goodIn_c (glX11_rules_1 _ (List.mem_of_getElem? (i := 2) rfl)) (goodIn_c (glX11_rules_1 _ (List.mem_of_getElem? (i := 3) rfl)) (goodIn_c (glX11_rules_3 _ (List.mem_of_getElem? (i := 23) rfl)) (goodIn_c (glX11_rules_4 _ (List.mem_of_getElem? (i := 0) rfl)) (goodIn_n))))))))))))))))))))))))) (goodIn_app (goodIn_c (glX11_rules_4 _ (List.mem_of_getElem? (i := 1) rfl)) (goodIn_c (glX11_rules_1 _ (List.mem_of_getElem? (i := 9) rfl)) (goodIn_c (glX11_rules_4 _ (List.mem_of_getElem? (i := 2) rfl)) (goodIn_c (glX11_rules_4 _ (List.mem_of_getElem? (i := 3) rfl)) (goodIn_c (glX11_rules_4 _ (List.mem_of_getElem? (i := 4) rfl)) (goodIn_c (glX11_rules_4 _ (List.mem_of_getElem? (i := 5) rfl)) (goodIn_c (glX11_rules_4 _ (List.mem_of_getElem? (i := 6) rfl)) (goodIn_c (glX11_rules_4 _ (List.mem_of_getElem? (i := 7) rfl)) (goodIn_c (glX11_rules_4 _ (List.mem_of_getElem? (i := 8) rfl)) (goodIn_c (glX11_rules_4 _ (List.mem_of_getElem? (i := 9) rfl)) (goodIn_c (glX11_rules_4 _ (List.mem_of_getElem? (i := 10) rfl)) (goodIn_c (glX11_rules_4 _ (List.mem_of_getElem? (i := 11) rfl)) (goodIn_c (glX11_rules_4 _ (List.mem_of_getElem? (i := 12) rfl)) (goodIn_c (glX11_rules_4 _ (List.mem_of_getElem? (i := 13) rfl)) (goodIn_c (glX11_rules_4 _ (List.mem_of_getElem? (i := 14) rfl)) (goodIn_c (glX11_rules_4 _ (List.mem_of_getElem? (i := 15) rfl)) (goodIn_c (glX11_rules_4 _ (List.mem_of_getElem? (i := 16) rfl)) (goodIn_c (glX11_rules_4 _ (List.mem_of_getElem? (i := 17) rfl)) (goodIn_c (glX11_rules_4 _ (List.mem_of_getElem? (i := 18) rfl)) (goodIn_c (glX11_rules_4 _ (List.mem_of_getElem? (i := 19) rfl)) (goodIn_c (glX11_rules_4 _ (List.mem_of_getElem? (i := 20) rfl)) (goodIn_c (glX11_rules_4 _ (List.mem_of_getElem? (i := 21) rfl)) (goodIn_c (glX11_rules_4 _ (List.mem_of_getElem? (i := 22) rfl)) (goodIn_c (glX11_rules_4 _ (List.mem_of_getElem? (i := 23) rfl)) (goodIn_n))))))))))))))))))))))))) (goodIn_app (goodIn_c (glX11_rules_5 _ (List.mem_of_getElem? (i := 0) rfl)) (goodIn_c (glX11_rules_5 _ (List.mem_of_getElem? (i := 1) rfl)) (goodIn_c (glX11_rules_0 _ (List.mem_of_getElem? (i := 22) rfl)) (goodIn_c (glX11_rules_5 _ (List.mem_of_getElem? (i := 2) rfl)) (goodIn_c (glX11_rules_5 _ (List.mem_of_getElem? (i := 3) rfl)) (goodIn_c (glX11_rules_5 _ (List.mem_of_getElem? (i := 4) rfl)) (goodIn_c (glX11_rules_5 _ (List.mem_of_getElem? (i := 5) rfl)) (goodIn_c (glX11_rules_5 _ (List.mem_of_getElem? (i := 6) rfl)) (goodIn_c (glX11_rules_5 _ (List.mem_of_getElem? (i := 7) rfl)) (goodIn_c (glX11_rules_5 _ (List.mem_of_getElem? (i := 8) rfl)) (goodIn_c (glX11_rules_5 _ (List.mem_of_getElem? (i := 9) rfl)) (goodIn_c (glX11_rules_5 _ (List.mem_of_getElem? (i := 10) rfl)) (goodIn_c (glX11_rules_5 _ (List.mem_of_getElem? (i := 11) rfl)) (goodIn_c (glX11_rules_5 _ (List.mem_of_getElem? (i := 12) rfl)) (goodIn_c (glX11_rules_5 _ (List.mem_of_getElem? (i := 13) rfl)) (goodIn_c (glX11_rules_5 _ (List.mem_of_getElem? (i := 14) rfl)) (goodIn_c (glX11_rules_5 _ (List.mem_of_getElem? (i := 15) rfl)) (goodIn_c (glX11_rules_5 _ (List.mem_of_getElem? (i := 16) rfl)) (goodIn_c (glX11_rules_5 _ (List.mem_of_getElem? (i := 17) rfl)) (goodIn_c (glX11_rules_5 _ (List.mem_of_getElem? (i := 18) rfl)) (goodIn_c (glX11_rules_5 _ (List.mem_of_getElem? (i := 19) rfl)) (goodIn_c (glX11_rules_5 _ (List.mem_of_getElem? (i := 20) rfl)) (goodIn_c (glX11_rules_5 _ (List.mem_of_getElem? (i := 21) rfl)) (goodIn_c (glX11_rules_5 _ (List.mem_of_getElem? (i := 22) rfl)) (goodIn_n))))))))))))))))))))))))) (goodIn_c (glX11_rules_5 _ (List.mem_of_getElem? (i := 23) rfl)) (goodIn_n))))))) (glX11_rules_7)) (glX11_rules_9)) (glX11_rules_8)) (glX11_rules_10)) (glX11_rules_11))
set_option maxRecDepth 20000 in
theorem gX11_rules_X11_readRule : GoodIn wsX11_rules (wsV RX11 157 RX11 yX11_readRule wsX11_readRule) := goodIn_app (goodIn_c (glX11_rules_1 _ (List.mem_of_getElem? (i := 6) rfl)) (goodIn_c (glX11_rules_1 _ (List.mem_of_getElem? (i := 7) rfl)) (goodIn_c (glX11_rules_1 _ (List.mem_of_getElem? (i := 8) rfl)) (goodIn_c (glX11_rules_1 _ (List.mem_of_getElem? (i := 9) rfl)) (goodIn_n))))) ggX11_rules_X11_readRule
set_option maxRecDepth 20000 in
theorem glX11_rules_6 : GoodIn wsX11_rules (wsX11_rules_r7) := goodIn_sub (fun _ h => List.mem_cons_of_mem _ (List.mem_append_left _ (List.mem_append_left _ (List.mem_append_left _ (List.mem_append_left _ (List.mem_append_left _ (List.mem_append_left _ (List.mem_append_right _ (List.mem_append_right _ (List.mem_append_right _ (List.mem_append_right _ (List.mem_append_right _ (List.mem_append_right _ (h)))))))))))))) (by decide +kernel)
set_option maxRecDepth 20000 in
theorem ggX11_rules_X7_takesSign : GoodIn wsX11_rules wsX7_takesSign := goodIn_c (glX11_rules_6 _ (List.mem_of_getElem? (i := 3) rfl)) (goodIn_app (goodIn_c (glX11_rules_0 _ (List.mem_of_getElem? (i := 23) rfl)) (goodIn_c (glX11_rules_1 _ (List.mem_of_getElem? (i := 4) rfl)) (goodIn_c (glX11_rules_1 _ (List.mem_of_getElem? (i := 5) rfl)) (goodIn_c (glX11_rules_1 _ (List.mem_of_getElem? (i := 0) rfl)) (goodIn_c (glX11_rules_1 _ (List.mem_of_getElem? (i := 1) rfl)) (goodIn_c (glX11_rules_1 _ (List.mem_of_getElem? (i := 2) rfl)) (goodIn_c (glX11_rules_0 _ (List.mem_of_getElem? (i := 20) rfl)) (goodIn_c (glX11_rules_1 _ (List.mem_of_getElem? (i := 3) rfl)) (goodIn_n))))))))) (glX11_rules_9))
set_option maxRecDepth 20000 in
theorem gX11_rules_X7_takesSign : GoodIn wsX11_rules (wsV RX11 160 RX7 yX7_takesSign wsX7_takesSign) := goodIn_app (goodIn_c (glX11_rules_6 _ (List.mem_of_getElem? (i := 0) rfl)) (goodIn_c (glX11_rules_6 _ (List.mem_of_getElem? (i := 1) rfl)) (goodIn_c (glX11_rules_6 _ (List.mem_of_getElem? (i := 2) rfl)) (goodIn_c (glX11_rules_0 _ (List.mem_of_getElem? (i := 20) rfl)) (goodIn_n))))) ggX11_rules_X7_takesSign
set_option maxRecDepth 20000 in
theorem ggX11_rules_X11_closeTape : GoodIn wsX11_rules wsX11_closeTape := goodIn_c (glX11_rules_6 _ (List.mem_of_getElem? (i := 7) rfl)) (goodIn_app (goodIn_app (goodIn_c (glX11_rules_0 _ (List.mem_of_getElem? (i := 4) rfl)) (goodIn_c (glX11_rules_6 _ (List.mem_of_getElem? (i := 8) rfl)) (goodIn_c (glX11_rules_0 _ (List.mem_of_getElem? (i := 5) rfl)) (goodIn_c (glX11_rules_6 _ (List.mem_of_getElem? (i := 9) rfl)) (goodIn_c (glX11_rules_6 _ (List.mem_of_getElem? (i := 10) rfl)) (goodIn_c (glX11_rules_6 _ (List.mem_of_getElem? (i := 11) rfl)) (goodIn_c (glX11_rules_6 _ (List.mem_of_getElem? (i := 12) rfl)) (goodIn_c (glX11_rules_0 _ (List.mem_of_getElem? (i := 20) rfl)) (goodIn_c (glX11_rules_6 _ (List.mem_of_getElem? (i := 13) rfl)) (goodIn_c (glX11_rules_0 _ (List.mem_of_getElem? (i := 23) rfl)) (goodIn_c (glX11_rules_1 _ (List.mem_of_getElem? (i := 4) rfl)) (goodIn_c (glX11_rules_4 _ (List.mem_of_getElem? (i := 22) rfl)) (goodIn_c (glX11_rules_4 _ (List.mem_of_getElem? (i := 23) rfl)) (goodIn_c (glX11_rules_5 _ (List.mem_of_getElem? (i := 0) rfl)) (goodIn_c (glX11_rules_5 _ (List.mem_of_getElem? (i := 1) rfl)) (goodIn_c (glX11_rules_0 _ (List.mem_of_getElem? (i := 22) rfl)) (goodIn_n))))))))))))))))) (glX11_rules_7)) (glX11_rules_9))
set_option maxRecDepth 20000 in
theorem gX11_rules_X11_closeTape : GoodIn wsX11_rules (wsV RX11 164 RX11 yX11_closeTape wsX11_closeTape) := goodIn_app (goodIn_c (glX11_rules_6 _ (List.mem_of_getElem? (i := 4) rfl)) (goodIn_c (glX11_rules_6 _ (List.mem_of_getElem? (i := 5) rfl)) (goodIn_c (glX11_rules_6 _ (List.mem_of_getElem? (i := 6) rfl)) (goodIn_c (glX11_rules_1 _ (List.mem_of_getElem? (i := 9) rfl)) (goodIn_n))))) ggX11_rules_X11_closeTape
theorem dX11_rules_0 : decode cX11_rules 0 = .ok (.aload_n 0, 1) := qdE42 (by decide +kernel)
theorem dX11_rules_1 : decode cX11_rules 1 = .ok (.getfield 37, 3) := qdE180 (by decide +kernel)
theorem dX11_rules_4 : decode cX11_rules 4 = .ok (.aload_n 0, 1) := qdE42 (by decide +kernel)
theorem dX11_rules_5 : decode cX11_rules 5 = .ok (.getfield 33, 3) := qdE180 (by decide +kernel)
theorem dX11_rules_8 : decode cX11_rules 8 = .ok (.invokevirtual 150, 3) := qdE182 (by decide +kernel)
theorem dX11_rules_11 : decode cX11_rules 11 = .ok (.aload_n 0, 1) := qdE42 (by decide +kernel)
theorem dX11_rules_12 : decode cX11_rules 12 = .ok (.getfield 10, 3) := qdE180 (by decide +kernel)
theorem dX11_rules_15 : decode cX11_rules 15 = .ok (.invokevirtual 154, 3) := qdE182 (by decide +kernel)
theorem dX11_rules_18 : decode cX11_rules 18 = .ok (.iconst 0, 1) := qdE3 (by decide +kernel)
theorem dX11_rules_19 : decode cX11_rules 19 = .ok (.istore_n 1, 1) := qdE60 (by decide +kernel)
theorem dX11_rules_20 : decode cX11_rules 20 = .ok (.iconst 1, 1) := qdE4 (by decide +kernel)
theorem dX11_rules_21 : decode cX11_rules 21 = .ok (.istore_n 2, 1) := qdE61 (by decide +kernel)
theorem dX11_rules_22 : decode cX11_rules 22 = .ok (.iconst 0, 1) := qdE3 (by decide +kernel)
theorem dX11_rules_23 : decode cX11_rules 23 = .ok (.istore_n 3, 1) := qdE62 (by decide +kernel)
theorem dX11_rules_24 : decode cX11_rules 24 = .ok (.iload_n 3, 1) := qdE29 (by decide +kernel)
theorem dX11_rules_25 : decode cX11_rules 25 = .ok (.sipush 400, 3) := qdE17 (by decide +kernel)
theorem dX11_rules_28 : decode cX11_rules 28 = .ok (.if_icmp .ge 30, 3) := qdE162 (by decide +kernel)
theorem dX11_rules_31 : decode cX11_rules 31 = .ok (.iload_n 2, 1) := qdE28 (by decide +kernel)
theorem dX11_rules_32 : decode cX11_rules 32 = .ok (.ifCond .eq 26, 3) := qdE153 (by decide +kernel)
theorem dX11_rules_35 : decode cX11_rules 35 = .ok (.aload_n 0, 1) := qdE42 (by decide +kernel)
theorem dX11_rules_36 : decode cX11_rules 36 = .ok (.invokevirtual 157, 3) := qdE182 (by decide +kernel)
theorem dX11_rules_39 : decode cX11_rules 39 = .ok (.iinc 1 1, 3) := qdE132 (by decide +kernel)
theorem dX11_rules_42 : decode cX11_rules 42 = .ok (.aload_n 0, 1) := qdE42 (by decide +kernel)
theorem dX11_rules_43 : decode cX11_rules 43 = .ok (.getfield 10, 3) := qdE180 (by decide +kernel)
theorem dX11_rules_46 : decode cX11_rules 46 = .ok (.bipush 59, 2) := qdE16 (by decide +kernel)
theorem dX11_rules_48 : decode cX11_rules 48 = .ok (.invokevirtual 160, 3) := qdE182 (by decide +kernel)
theorem dX11_rules_51 : decode cX11_rules 51 = .ok (.istore_n 2, 1) := qdE61 (by decide +kernel)
theorem dX11_rules_52 : decode cX11_rules 52 = .ok (.iinc 3 1, 3) := qdE132 (by decide +kernel)
theorem dX11_rules_55 : decode cX11_rules 55 = .ok (.goto (-31), 3) := qdE167 (by decide +kernel)
theorem dX11_rules_58 : decode cX11_rules 58 = .ok (.aload_n 0, 1) := qdE42 (by decide +kernel)
theorem dX11_rules_59 : decode cX11_rules 59 = .ok (.invokevirtual 164, 3) := qdE182 (by decide +kernel)
theorem dX11_rules_62 : decode cX11_rules 62 = .ok (.aload_n 0, 1) := qdE42 (by decide +kernel)
theorem dX11_rules_63 : decode cX11_rules 63 = .ok (.getfield 72, 3) := qdE180 (by decide +kernel)
theorem dX11_rules_66 : decode cX11_rules 66 = .ok (.iconst (-1), 1) := qdE2 (by decide +kernel)
theorem dX11_rules_67 : decode cX11_rules 67 = .ok (.if_icmp .eq 13, 3) := qdE159 (by decide +kernel)
theorem dX11_rules_70 : decode cX11_rules 70 = .ok (.new 91, 3) := qdE187 (by decide +kernel)
theorem dX11_rules_73 : decode cX11_rules 73 = .ok (.dup, 1) := qdE89 (by decide +kernel)
theorem dX11_rules_74 : decode cX11_rules 74 = .ok (.ldc 167, 2) := qdE18 (by decide +kernel)
theorem dX11_rules_76 : decode cX11_rules 76 = .ok (.invokespecial 95, 3) := qdE183 (by decide +kernel)
theorem dX11_rules_79 : decode cX11_rules 79 = .ok (.athrow, 1) := qdE191 (by decide +kernel)
theorem dX11_rules_80 : decode cX11_rules 80 = .ok (.aload_n 0, 1) := qdE42 (by decide +kernel)
theorem dX11_rules_81 : decode cX11_rules 81 = .ok (.getfield 33, 3) := qdE180 (by decide +kernel)
theorem dX11_rules_84 : decode cX11_rules 84 = .ok (.aload_n 0, 1) := qdE42 (by decide +kernel)
theorem dX11_rules_85 : decode cX11_rules 85 = .ok (.getfield 37, 3) := qdE180 (by decide +kernel)
theorem dX11_rules_88 : decode cX11_rules 88 = .ok (.invokevirtual 150, 3) := qdE182 (by decide +kernel)
theorem dX11_rules_91 : decode cX11_rules 91 = .ok (.iload_n 1, 1) := qdE27 (by decide +kernel)
theorem dX11_rules_92 : decode cX11_rules 92 = .ok (.ireturn, 1) := qdE172 (by decide +kernel)
set_option maxRecDepth 20000 in
theorem glX11_says_0 : GoodIn wsX11_says ([Cond.classLink RX11 169 "java/util/NoSuchElementException", Cond.initialized "java/util/NoSuchElementException", Cond.fieldLink RX11 33 "PostHouse" "rules" "LPostHouse$Rules;", Cond.fieldLink RX11 174 "PostHouse$Rules" "numbers" "[I", Cond.methodLink RX11 87 yX11_within, Cond.static yX11_within, Cond.initialized RX11, Cond.code yX11_within cX11_within 3 (some .boolean)]) := goodIn_sub (fun _ h => List.mem_cons_of_mem _ (List.mem_append_left _ (List.mem_append_left _ (List.mem_append_left _ (h))))) (by decide +kernel)
set_option maxRecDepth 20000 in
theorem ggX11_says_X11_within : GoodIn wsX11_says wsX11_within := goodIn_c (glX11_says_0 _ (List.mem_of_getElem? (i := 7) rfl)) (goodIn_n)
set_option maxRecDepth 20000 in
theorem gX11_says_X11_within : GoodIn wsX11_says (va_wsS RX11 87 yX11_within wsX11_within) := goodIn_app (goodIn_c (glX11_says_0 _ (List.mem_of_getElem? (i := 4) rfl)) (goodIn_c (glX11_says_0 _ (List.mem_of_getElem? (i := 5) rfl)) (goodIn_c (glX11_says_0 _ (List.mem_of_getElem? (i := 6) rfl)) (goodIn_n)))) ggX11_says_X11_within
theorem dX11_says_0 : decode cX11_says 0 = .ok (.iload_n 1, 1) := qdE27 (by decide +kernel)
theorem dX11_says_1 : decode cX11_says 1 = .ok (.iconst 0, 1) := qdE3 (by decide +kernel)
theorem dX11_says_2 : decode cX11_says 2 = .ok (.iconst 3, 1) := qdE6 (by decide +kernel)
theorem dX11_says_3 : decode cX11_says 3 = .ok (.invokestatic 87, 3) := qdE184 (by decide +kernel)
theorem dX11_says_6 : decode cX11_says 6 = .ok (.ifCond .ne 13, 3) := qdE154 (by decide +kernel)
theorem dX11_says_9 : decode cX11_says 9 = .ok (.new 169, 3) := qdE187 (by decide +kernel)
theorem dX11_says_12 : decode cX11_says 12 = .ok (.dup, 1) := qdE89 (by decide +kernel)
theorem dX11_says_13 : decode cX11_says 13 = .ok (.ldc 171, 2) := qdE18 (by decide +kernel)
theorem dX11_says_15 : decode cX11_says 15 = .ok (.invokespecial 173, 3) := qdE183 (by decide +kernel)
theorem dX11_says_18 : decode cX11_says 18 = .ok (.athrow, 1) := qdE191 (by decide +kernel)
theorem dX11_says_19 : decode cX11_says 19 = .ok (.aload_n 0, 1) := qdE42 (by decide +kernel)
theorem dX11_says_20 : decode cX11_says 20 = .ok (.getfield 33, 3) := qdE180 (by decide +kernel)
theorem dX11_says_23 : decode cX11_says 23 = .ok (.getfield 174, 3) := qdE180 (by decide +kernel)
theorem dX11_says_26 : decode cX11_says 26 = .ok (.iload_n 1, 1) := qdE27 (by decide +kernel)
theorem dX11_says_27 : decode cX11_says 27 = .ok (.iaload, 1) := qdE46 (by decide +kernel)
theorem dX11_says_28 : decode cX11_says 28 = .ok (.ireturn, 1) := qdE172 (by decide +kernel)
set_option maxRecDepth 20000 in
theorem ggX11_instead_X11_thingAt : GoodIn wsX11_instead wsX11_thingAt := goodIn_ca (goodIn_r _ [8, 9, 10, 11, 12, 13, 14, 15, 16, 17, 18, 19, 7, 20, 21, 22, 23, 24, 25, 26, 27, 28, 29, 30, 31, 32, 33, 34, 35, 36, 49, 50] rfl (by decide +kernel)) (goodIn_sub (fun _ h => List.mem_cons_of_mem _ (List.mem_append_right _ h)) (by decide +kernel))
set_option maxRecDepth 20000 in
theorem glX11_instead_0 : GoodIn wsX11_instead ([Cond.fieldLink RX11 33 "PostHouse" "rules" "LPostHouse$Rules;", Cond.fieldLink RX11 178 "PostHouse$Rules" "places" "[I", Cond.fieldLink RX11 181 "PostHouse$Thing" "number" "I", Cond.methodLink RX11 116 yX11_thingAt, Cond.instanceMethod yX11_thingAt, Cond.selects RX11 yX11_thingAt yX11_thingAt, Cond.initialized RX11, Cond.code yX11_thingAt cX11_thingAt 3 (some (.object "PostHouse$Thing")), Cond.classLink RX11 322 "java/lang/IndexOutOfBoundsException", Cond.initialized "java/lang/IndexOutOfBoundsException", Cond.fieldLink RX11 19 "PostHouse" "book" "LPostHouse$Book;", Cond.methodLink RX11 378 yX0_at, Cond.instanceMethod yX0_at, Cond.selects RX0 yX0_at yX0_at, Cond.initialized RX0, Cond.code yX0_at cX0_at 2 (some (.object "PostHouse$Thing")), Cond.fieldLink RX0 17 "PostHouse$Book" "size" "I", Cond.fieldLink RX0 11 "PostHouse$Book" "things" "[LPostHouse$Thing;", Cond.static yX11_within, Cond.code yX11_within cX11_within 3 (some .boolean)]) := goodIn_sub (fun _ h => List.mem_cons_of_mem _ (List.mem_append_left _ (List.mem_append_left _ (List.mem_append_left _ (List.mem_append_left _ (List.mem_append_left _ (h))))))) (by decide +kernel)
set_option maxRecDepth 20000 in
theorem gX11_instead_X11_thingAt : GoodIn wsX11_instead (wsV RX11 116 RX11 yX11_thingAt wsX11_thingAt) := goodIn_app (goodIn_c (glX11_instead_0 _ (List.mem_of_getElem? (i := 3) rfl)) (goodIn_c (glX11_instead_0 _ (List.mem_of_getElem? (i := 4) rfl)) (goodIn_c (glX11_instead_0 _ (List.mem_of_getElem? (i := 5) rfl)) (goodIn_c (glX11_instead_0 _ (List.mem_of_getElem? (i := 6) rfl)) (goodIn_n))))) ggX11_instead_X11_thingAt
theorem dX11_instead_0 : decode cX11_instead 0 = .ok (.aload_n 0, 1) := qdE42 (by decide +kernel)
theorem dX11_instead_1 : decode cX11_instead 1 = .ok (.getfield 33, 3) := qdE180 (by decide +kernel)
theorem dX11_instead_4 : decode cX11_instead 4 = .ok (.getfield 178, 3) := qdE180 (by decide +kernel)
theorem dX11_instead_7 : decode cX11_instead 7 = .ok (.aload_n 0, 1) := qdE42 (by decide +kernel)
theorem dX11_instead_8 : decode cX11_instead 8 = .ok (.iload_n 1, 1) := qdE27 (by decide +kernel)
theorem dX11_instead_9 : decode cX11_instead 9 = .ok (.invokevirtual 116, 3) := qdE182 (by decide +kernel)
theorem dX11_instead_12 : decode cX11_instead 12 = .ok (.getfield 181, 3) := qdE180 (by decide +kernel)
theorem dX11_instead_15 : decode cX11_instead 15 = .ok (.iaload, 1) := qdE46 (by decide +kernel)
theorem dX11_instead_16 : decode cX11_instead 16 = .ok (.ireturn, 1) := qdE172 (by decide +kernel)
set_option maxRecDepth 20000 in
theorem glX11_letter_0 : GoodIn wsX11_letter (wsX11_letter_r1) := goodIn_sub (fun _ h => List.mem_cons_of_mem _ (List.mem_append_left _ (List.mem_append_left _ (List.mem_append_left _ (List.mem_append_left _ (List.mem_append_left _ (List.mem_append_left _ (List.mem_append_left _ (List.mem_append_left _ (List.mem_append_left _ (List.mem_append_left _ (List.mem_append_left _ (h))))))))))))) (by decide +kernel)
set_option maxRecDepth 20000 in
theorem glX11_letter_11 : GoodIn wsX11_letter (wsX20) := goodIn_sub (fun _ h => List.mem_cons_of_mem _ (List.mem_append_left _ (List.mem_append_left _ (List.mem_append_left _ (List.mem_append_left _ (List.mem_append_left _ (List.mem_append_left _ (List.mem_append_left _ (List.mem_append_left _ (List.mem_append_left _ (List.mem_append_right _ (h)))))))))))) ag_wsX20
set_option maxRecDepth 20000 in
theorem ggX11_letter_X2_init : GoodIn wsX11_letter wsX2_init := goodIn_c (glX11_letter_0 _ (List.mem_of_getElem? (i := 15) rfl)) (goodIn_app (goodIn_c (glX11_letter_0 _ (List.mem_of_getElem? (i := 16) rfl)) (goodIn_c (glX11_letter_0 _ (List.mem_of_getElem? (i := 17) rfl)) (goodIn_c (glX11_letter_0 _ (List.mem_of_getElem? (i := 18) rfl)) (goodIn_c (glX11_letter_0 _ (List.mem_of_getElem? (i := 19) rfl)) (goodIn_c (glX11_letter_0 _ (List.mem_of_getElem? (i := 20) rfl)) (goodIn_c (glX11_letter_0 _ (List.mem_of_getElem? (i := 21) rfl)) (goodIn_n))))))) (glX11_letter_11))
set_option maxRecDepth 20000 in
theorem gX11_letter_X2_init_n184 : GoodIn wsX11_letter (wsX2_init) := ggX11_letter_X2_init
set_option maxRecDepth 20000 in
theorem glX11_letter_1 : GoodIn wsX11_letter (wsX11_letter_r2) := goodIn_sub (fun _ h => List.mem_cons_of_mem _ (List.mem_append_left _ (List.mem_append_left _ (List.mem_append_left _ (List.mem_append_left _ (List.mem_append_left _ (List.mem_append_left _ (List.mem_append_left _ (List.mem_append_left _ (List.mem_append_left _ (List.mem_append_left _ (List.mem_append_right _ (List.mem_append_left _ (h)))))))))))))) (by decide +kernel)
set_option maxRecDepth 20000 in
theorem glX11_letter_13 : GoodIn wsX11_letter (wsX70) := goodIn_sub (fun _ h => List.mem_cons_of_mem _ (List.mem_append_left _ (List.mem_append_left _ (List.mem_append_left _ (List.mem_append_left _ (List.mem_append_left _ (List.mem_append_left _ (List.mem_append_left _ (List.mem_append_right _ (h)))))))))) ag_wsX70
set_option maxRecDepth 20000 in
theorem ggX11_letter_X7_open : GoodIn wsX11_letter wsX7_open := goodIn_c (glX11_letter_1 _ (List.mem_of_getElem? (i := 2) rfl)) (goodIn_app (goodIn_c (glX11_letter_1 _ (List.mem_of_getElem? (i := 3) rfl)) (goodIn_c (glX11_letter_1 _ (List.mem_of_getElem? (i := 4) rfl)) (goodIn_c (glX11_letter_1 _ (List.mem_of_getElem? (i := 5) rfl)) (goodIn_c (glX11_letter_1 _ (List.mem_of_getElem? (i := 6) rfl)) (goodIn_c (glX11_letter_1 _ (List.mem_of_getElem? (i := 7) rfl)) (goodIn_c (glX11_letter_1 _ (List.mem_of_getElem? (i := 1) rfl)) (goodIn_c (glX11_letter_1 _ (List.mem_of_getElem? (i := 8) rfl)) (goodIn_c (glX11_letter_1 _ (List.mem_of_getElem? (i := 9) rfl)) (goodIn_c (glX11_letter_1 _ (List.mem_of_getElem? (i := 10) rfl)) (goodIn_n)))))))))) (glX11_letter_13))
set_option maxRecDepth 20000 in
theorem gX11_letter_X7_open : GoodIn wsX11_letter (wsV RX11 154 RX7 yX7_open wsX7_open) := goodIn_app (goodIn_c (glX11_letter_0 _ (List.mem_of_getElem? (i := 22) rfl)) (goodIn_c (glX11_letter_0 _ (List.mem_of_getElem? (i := 23) rfl)) (goodIn_c (glX11_letter_1 _ (List.mem_of_getElem? (i := 0) rfl)) (goodIn_c (glX11_letter_1 _ (List.mem_of_getElem? (i := 1) rfl)) (goodIn_n))))) ggX11_letter_X7_open
set_option maxRecDepth 20000 in
theorem glX11_letter_2 : GoodIn wsX11_letter (wsX11_letter_r3) := goodIn_sub (fun _ h => List.mem_cons_of_mem _ (List.mem_append_left _ (List.mem_append_left _ (List.mem_append_left _ (List.mem_append_left _ (List.mem_append_left _ (List.mem_append_left _ (List.mem_append_left _ (List.mem_append_left _ (List.mem_append_left _ (List.mem_append_left _ (List.mem_append_right _ (List.mem_append_right _ (List.mem_append_left _ (h))))))))))))))) (by decide +kernel)
set_option maxRecDepth 20000 in
theorem glX11_letter_3 : GoodIn wsX11_letter (wsX11_letter_r4) := goodIn_sub (fun _ h => List.mem_cons_of_mem _ (List.mem_append_left _ (List.mem_append_left _ (List.mem_append_left _ (List.mem_append_left _ (List.mem_append_left _ (List.mem_append_left _ (List.mem_append_left _ (List.mem_append_left _ (List.mem_append_left _ (List.mem_append_left _ (List.mem_append_right _ (List.mem_append_right _ (List.mem_append_right _ (List.mem_append_left _ (h)))))))))))))))) (by decide +kernel)
set_option maxRecDepth 20000 in
theorem glX11_letter_4 : GoodIn wsX11_letter (wsX11_letter_r5) := goodIn_sub (fun _ h => List.mem_cons_of_mem _ (List.mem_append_left _ (List.mem_append_left _ (List.mem_append_left _ (List.mem_append_left _ (List.mem_append_left _ (List.mem_append_left _ (List.mem_append_left _ (List.mem_append_left _ (List.mem_append_left _ (List.mem_append_left _ (List.mem_append_right _ (List.mem_append_right _ (List.mem_append_right _ (List.mem_append_right _ (List.mem_append_left _ (h))))))))))))))))) (by decide +kernel)
set_option maxRecDepth 20000 in
theorem glX11_letter_5 : GoodIn wsX11_letter (wsX11_letter_r6) := goodIn_sub (fun _ h => List.mem_cons_of_mem _ (List.mem_append_left _ (List.mem_append_left _ (List.mem_append_left _ (List.mem_append_left _ (List.mem_append_left _ (List.mem_append_left _ (List.mem_append_left _ (List.mem_append_left _ (List.mem_append_left _ (List.mem_append_left _ (List.mem_append_right _ (List.mem_append_right _ (List.mem_append_right _ (List.mem_append_right _ (List.mem_append_right _ (List.mem_append_left _ (h)))))))))))))))))) (by decide +kernel)
set_option maxRecDepth 20000 in
theorem glX11_letter_12 : GoodIn wsX11_letter (wsX110) := goodIn_sub (fun _ h => List.mem_cons_of_mem _ (List.mem_append_left _ (List.mem_append_left _ (List.mem_append_left _ (List.mem_append_left _ (List.mem_append_left _ (List.mem_append_left _ (List.mem_append_left _ (List.mem_append_left _ (List.mem_append_right _ (h))))))))))) ag_wsX110
set_option maxRecDepth 20000 in
theorem ggX11_letter_X11_readLetter : GoodIn wsX11_letter wsX11_readLetter := goodIn_c (glX11_letter_1 _ (List.mem_of_getElem? (i := 15) rfl)) (goodIn_app (goodIn_app (goodIn_app (goodIn_app (goodIn_c (glX11_letter_0 _ (List.mem_of_getElem? (i := 7) rfl)) (goodIn_c (glX11_letter_1 _ (List.mem_of_getElem? (i := 16) rfl)) (goodIn_c (glX11_letter_1 _ (List.mem_of_getElem? (i := 17) rfl)) (goodIn_c (glX11_letter_1 _ (List.mem_of_getElem? (i := 18) rfl)) (goodIn_c (glX11_letter_1 _ (List.mem_of_getElem? (i := 19) rfl)) (goodIn_c (glX11_letter_1 _ (List.mem_of_getElem? (i := 20) rfl)) (goodIn_c (glX11_letter_1 _ (List.mem_of_getElem? (i := 21) rfl)) (goodIn_c (glX11_letter_1 _ (List.mem_of_getElem? (i := 1) rfl)) (goodIn_c (glX11_letter_1 _ (List.mem_of_getElem? (i := 22) rfl)) (goodIn_c (glX11_letter_1 _ (List.mem_of_getElem? (i := 23) rfl)) (goodIn_c (glX11_letter_2 _ (List.mem_of_getElem? (i := 0) rfl)) (goodIn_c (glX11_letter_2 _ (List.mem_of_getElem? (i := 1) rfl)) (goodIn_c (glX11_letter_2 _ (List.mem_of_getElem? (i := 2) rfl)) (goodIn_c (glX11_letter_1 _ (List.mem_of_getElem? (i := 4) rfl)) (goodIn_c (glX11_letter_2 _ (List.mem_of_getElem? (i := 3) rfl)) (goodIn_c (glX11_letter_2 _ (List.mem_of_getElem? (i := 4) rfl)) (goodIn_c (glX11_letter_2 _ (List.mem_of_getElem? (i := 5) rfl)) (goodIn_c (glX11_letter_2 _ (List.mem_of_getElem? (i := 6) rfl)) (goodIn_c (glX11_letter_1 _ (List.mem_of_getElem? (i := 9) rfl)) (goodIn_c (glX11_letter_1 _ (List.mem_of_getElem? (i := 10) rfl)) (goodIn_c (glX11_letter_2 _ (List.mem_of_getElem? (i := 7) rfl)) (goodIn_c (glX11_letter_2 _ (List.mem_of_getElem? (i := 8) rfl)) (goodIn_c (glX11_letter_2 _ (List.mem_of_getElem? (i := 9) rfl)) (goodIn_c (glX11_letter_2 _ (List.mem_of_getElem? (i := 10) rfl)) (goodIn_n))))))))))))))))))))))))) (goodIn_app (goodIn_c (glX11_letter_2 _ (List.mem_of_getElem? (i := 11) rfl)) (goodIn_c (glX11_letter_2 _ (List.mem_of_getElem? (i := 12) rfl)) (goodIn_c (glX11_letter_2 _ (List.mem_of_getElem? (i := 13) rfl)) (goodIn_c (glX11_letter_2 _ (List.mem_of_getElem? (i := 14) rfl)) (goodIn_c (glX11_letter_1 _ (List.mem_of_getElem? (i := 3) rfl)) (goodIn_c (glX11_letter_1 _ (List.mem_of_getElem? (i := 5) rfl)) (goodIn_c (glX11_letter_1 _ (List.mem_of_getElem? (i := 6) rfl)) (goodIn_c (glX11_letter_1 _ (List.mem_of_getElem? (i := 7) rfl)) (goodIn_c (glX11_letter_1 _ (List.mem_of_getElem? (i := 8) rfl)) (goodIn_c (glX11_letter_2 _ (List.mem_of_getElem? (i := 15) rfl)) (goodIn_c (glX11_letter_2 _ (List.mem_of_getElem? (i := 16) rfl)) (goodIn_c (glX11_letter_2 _ (List.mem_of_getElem? (i := 17) rfl)) (goodIn_c (glX11_letter_2 _ (List.mem_of_getElem? (i := 18) rfl)) (goodIn_c (glX11_letter_2 _ (List.mem_of_getElem? (i := 19) rfl)) (goodIn_c (glX11_letter_2 _ (List.mem_of_getElem? (i := 20) rfl)) (goodIn_c (glX11_letter_2 _ (List.mem_of_getElem? (i := 21) rfl)) (goodIn_c (glX11_letter_2 _ (List.mem_of_getElem? (i := 22) rfl)) (goodIn_c (glX11_letter_2 _ (List.mem_of_getElem? (i := 23) rfl)) (goodIn_c (glX11_letter_3 _ (List.mem_of_getElem? (i := 0) rfl)) (goodIn_c (glX11_letter_3 _ (List.mem_of_getElem? (i := 1) rfl)) (goodIn_c (glX11_letter_3 _ (List.mem_of_getElem? (i := 2) rfl)) (goodIn_c (glX11_letter_3 _ (List.mem_of_getElem? (i := 3) rfl)) (goodIn_c (glX11_letter_3 _ (List.mem_of_getElem? (i := 4) rfl)) (goodIn_c (glX11_letter_3 _ (List.mem_of_getElem? (i := 5) rfl)) (goodIn_n))))))))))))))))))))))))) (goodIn_app (goodIn_c (glX11_letter_3 _ (List.mem_of_getElem? (i := 6) rfl)) (goodIn_c (glX11_letter_3 _ (List.mem_of_getElem? (i := 7) rfl)) (goodIn_c (glX11_letter_3 _ (List.mem_of_getElem? (i := 8) rfl)) (goodIn_c (glX11_letter_3 _ (List.mem_of_getElem? (i := 9) rfl)) (goodIn_c (glX11_letter_3 _ (List.mem_of_getElem? (i := 10) rfl)) (goodIn_c (glX11_letter_3 _ (List.mem_of_getElem? (i := 11) rfl)) (goodIn_c (glX11_letter_3 _ (List.mem_of_getElem? (i := 12) rfl)) (goodIn_c (glX11_letter_3 _ (List.mem_of_getElem? (i := 13) rfl)) (goodIn_c (glX11_letter_3 _ (List.mem_of_getElem? (i := 14) rfl)) (goodIn_c (glX11_letter_3 _ (List.mem_of_getElem? (i := 15) rfl)) (goodIn_c (glX11_letter_3 _ (List.mem_of_getElem? (i := 16) rfl)) (goodIn_c (glX11_letter_3 _ (List.mem_of_getElem? (i := 17) rfl)) (goodIn_c (glX11_letter_3 _ (List.mem_of_getElem? (i := 18) rfl)) (goodIn_c (glX11_letter_3 _ (List.mem_of_getElem? (i := 19) rfl)) (goodIn_c (glX11_letter_3 _ (List.mem_of_getElem? (i := 20) rfl)) (goodIn_c (glX11_letter_3 _ (List.mem_of_getElem? (i := 21) rfl)) (goodIn_c (glX11_letter_3 _ (List.mem_of_getElem? (i := 22) rfl)) (goodIn_c (glX11_letter_3 _ (List.mem_of_getElem? (i := 23) rfl)) (goodIn_c (glX11_letter_4 _ (List.mem_of_getElem? (i := 0) rfl)) (goodIn_c (glX11_letter_4 _ (List.mem_of_getElem? (i := 1) rfl)) (goodIn_c (glX11_letter_4 _ (List.mem_of_getElem? (i := 2) rfl)) (goodIn_c (glX11_letter_4 _ (List.mem_of_getElem? (i := 3) rfl)) (goodIn_c (glX11_letter_4 _ (List.mem_of_getElem? (i := 4) rfl)) (goodIn_c (glX11_letter_4 _ (List.mem_of_getElem? (i := 5) rfl)) (goodIn_n))))))))))))))))))))))))) (goodIn_app (goodIn_c (glX11_letter_4 _ (List.mem_of_getElem? (i := 6) rfl)) (goodIn_c (glX11_letter_4 _ (List.mem_of_getElem? (i := 7) rfl)) (goodIn_c (glX11_letter_4 _ (List.mem_of_getElem? (i := 8) rfl)) (goodIn_c (glX11_letter_4 _ (List.mem_of_getElem? (i := 9) rfl)) (goodIn_c (glX11_letter_4 _ (List.mem_of_getElem? (i := 10) rfl)) (goodIn_c (glX11_letter_4 _ (List.mem_of_getElem? (i := 11) rfl)) (goodIn_c (glX11_letter_4 _ (List.mem_of_getElem? (i := 12) rfl)) (goodIn_c (glX11_letter_4 _ (List.mem_of_getElem? (i := 13) rfl)) (goodIn_c (glX11_letter_4 _ (List.mem_of_getElem? (i := 14) rfl)) (goodIn_c (glX11_letter_4 _ (List.mem_of_getElem? (i := 15) rfl)) (goodIn_c (glX11_letter_4 _ (List.mem_of_getElem? (i := 16) rfl)) (goodIn_c (glX11_letter_4 _ (List.mem_of_getElem? (i := 17) rfl)) (goodIn_c (glX11_letter_4 _ (List.mem_of_getElem? (i := 18) rfl)) (goodIn_c (glX11_letter_4 _ (List.mem_of_getElem? (i := 19) rfl)) (goodIn_c (glX11_letter_4 _ (List.mem_of_getElem? (i := 20) rfl)) (goodIn_c (glX11_letter_4 _ (List.mem_of_getElem? (i := 21) rfl)) (goodIn_c (glX11_letter_4 _ (List.mem_of_getElem? (i := 22) rfl)) (goodIn_c (glX11_letter_4 _ (List.mem_of_getElem? (i := 23) rfl)) (goodIn_c (glX11_letter_5 _ (List.mem_of_getElem? (i := 0) rfl)) (goodIn_c (glX11_letter_5 _ (List.mem_of_getElem? (i := 1) rfl)) (goodIn_c (glX11_letter_5 _ (List.mem_of_getElem? (i := 2) rfl)) (goodIn_c (glX11_letter_5 _ (List.mem_of_getElem? (i := 3) rfl)) (goodIn_c (glX11_letter_5 _ (List.mem_of_getElem? (i := 4) rfl)) (goodIn_c (glX11_letter_5 _ (List.mem_of_getElem? (i := 5) rfl)) (goodIn_n))))))))))))))))))))))))) (goodIn_c (glX11_letter_5 _ (List.mem_of_getElem? (i := 6) rfl)) (goodIn_c (glX11_letter_0 _ (List.mem_of_getElem? (i := 6) rfl)) (goodIn_c (glX11_letter_5 _ (List.mem_of_getElem? (i := 7) rfl)) (goodIn_c (glX11_letter_5 _ (List.mem_of_getElem? (i := 8) rfl)) (goodIn_c (glX11_letter_0 _ (List.mem_of_getElem? (i := 20) rfl)) (goodIn_c (glX11_letter_0 _ (List.mem_of_getElem? (i := 21) rfl)) (goodIn_c (glX11_letter_5 _ (List.mem_of_getElem? (i := 9) rfl)) (goodIn_c (glX11_letter_5 _ (List.mem_of_getElem? (i := 10) rfl)) (goodIn_c (glX11_letter_5 _ (List.mem_of_getElem? (i := 11) rfl)) (goodIn_c (glX11_letter_5 _ (List.mem_of_getElem? (i := 12) rfl)) (goodIn_c (glX11_letter_5 _ (List.mem_of_getElem? (i := 13) rfl)) (goodIn_n)))))))))))))))) (glX11_letter_12)) (glX11_letter_11)) (glX11_letter_13))
set_option maxRecDepth 20000 in
theorem gX11_letter_X11_readLetter : GoodIn wsX11_letter (wsV RX11 185 RX11 yX11_readLetter wsX11_readLetter) := goodIn_app (goodIn_c (glX11_letter_1 _ (List.mem_of_getElem? (i := 11) rfl)) (goodIn_c (glX11_letter_1 _ (List.mem_of_getElem? (i := 12) rfl)) (goodIn_c (glX11_letter_1 _ (List.mem_of_getElem? (i := 13) rfl)) (goodIn_c (glX11_letter_1 _ (List.mem_of_getElem? (i := 14) rfl)) (goodIn_n))))) ggX11_letter_X11_readLetter
set_option maxRecDepth 20000 in
theorem ggX11_letter_X11_closeTape : GoodIn wsX11_letter wsX11_closeTape := goodIn_c (glX11_letter_5 _ (List.mem_of_getElem? (i := 17) rfl)) (goodIn_app (goodIn_app (goodIn_c (glX11_letter_0 _ (List.mem_of_getElem? (i := 7) rfl)) (goodIn_c (glX11_letter_5 _ (List.mem_of_getElem? (i := 18) rfl)) (goodIn_c (glX11_letter_0 _ (List.mem_of_getElem? (i := 8) rfl)) (goodIn_c (glX11_letter_5 _ (List.mem_of_getElem? (i := 19) rfl)) (goodIn_c (glX11_letter_5 _ (List.mem_of_getElem? (i := 20) rfl)) (goodIn_c (glX11_letter_5 _ (List.mem_of_getElem? (i := 21) rfl)) (goodIn_c (glX11_letter_5 _ (List.mem_of_getElem? (i := 22) rfl)) (goodIn_c (glX11_letter_1 _ (List.mem_of_getElem? (i := 1) rfl)) (goodIn_c (glX11_letter_5 _ (List.mem_of_getElem? (i := 23) rfl)) (goodIn_c (glX11_letter_1 _ (List.mem_of_getElem? (i := 4) rfl)) (goodIn_c (glX11_letter_1 _ (List.mem_of_getElem? (i := 9) rfl)) (goodIn_c (glX11_letter_2 _ (List.mem_of_getElem? (i := 11) rfl)) (goodIn_c (glX11_letter_2 _ (List.mem_of_getElem? (i := 12) rfl)) (goodIn_c (glX11_letter_2 _ (List.mem_of_getElem? (i := 13) rfl)) (goodIn_c (glX11_letter_2 _ (List.mem_of_getElem? (i := 14) rfl)) (goodIn_c (glX11_letter_1 _ (List.mem_of_getElem? (i := 3) rfl)) (goodIn_n))))))))))))))))) (glX11_letter_12)) (glX11_letter_13))
set_option maxRecDepth 20000 in
theorem gX11_letter_X11_closeTape : GoodIn wsX11_letter (wsV RX11 164 RX11 yX11_closeTape wsX11_closeTape) := goodIn_app (goodIn_c (glX11_letter_5 _ (List.mem_of_getElem? (i := 14) rfl)) (goodIn_c (glX11_letter_5 _ (List.mem_of_getElem? (i := 15) rfl)) (goodIn_c (glX11_letter_5 _ (List.mem_of_getElem? (i := 16) rfl)) (goodIn_c (glX11_letter_1 _ (List.mem_of_getElem? (i := 14) rfl)) (goodIn_n))))) ggX11_letter_X11_closeTape
set_option maxRecDepth 20000 in
theorem glX11_letter_6 : GoodIn wsX11_letter (wsX11_letter_r7) := goodIn_sub (fun _ h => List.mem_cons_of_mem _ (List.mem_append_left _ (List.mem_append_left _ (List.mem_append_left _ (List.mem_append_left _ (List.mem_append_left _ (List.mem_append_left _ (List.mem_append_left _ (List.mem_append_left _ (List.mem_append_left _ (List.mem_append_left _ (List.mem_append_right _ (List.mem_append_right _ (List.mem_append_right _ (List.mem_append_right _ (List.mem_append_right _ (List.mem_append_right _ (List.mem_append_left _ (h))))))))))))))))))) (by decide +kernel)
set_option maxRecDepth 20000 in
theorem glX11_letter_7 : GoodIn wsX11_letter (wsX11_letter_r8) := goodIn_sub (fun _ h => List.mem_cons_of_mem _ (List.mem_append_left _ (List.mem_append_left _ (List.mem_append_left _ (List.mem_append_left _ (List.mem_append_left _ (List.mem_append_left _ (List.mem_append_left _ (List.mem_append_left _ (List.mem_append_left _ (List.mem_append_left _ (List.mem_append_right _ (List.mem_append_right _ (List.mem_append_right _ (List.mem_append_right _ (List.mem_append_right _ (List.mem_append_right _ (List.mem_append_right _ (List.mem_append_left _ (h)))))))))))))))))))) (by decide +kernel)
set_option maxRecDepth 20000 in
theorem glX11_letter_8 : GoodIn wsX11_letter (wsX11_letter_r9) := goodIn_sub (fun _ h => List.mem_cons_of_mem _ (List.mem_append_left _ (List.mem_append_left _ (List.mem_append_left _ (List.mem_append_left _ (List.mem_append_left _ (List.mem_append_left _ (List.mem_append_left _ (List.mem_append_left _ (List.mem_append_left _ (List.mem_append_left _ (List.mem_append_right _ (List.mem_append_right _ (List.mem_append_right _ (List.mem_append_right _ (List.mem_append_right _ (List.mem_append_right _ (List.mem_append_right _ (List.mem_append_right _ (List.mem_append_left _ (h))))))))))))))))))))) (by decide +kernel)
set_option maxRecDepth 20000 in
theorem glX11_letter_14 : GoodIn wsX11_letter (wsX00) := goodIn_sub (fun _ h => List.mem_cons_of_mem _ (List.mem_append_left _ (List.mem_append_left _ (List.mem_append_left _ (List.mem_append_left _ (List.mem_append_left _ (List.mem_append_left _ (List.mem_append_right _ (h))))))))) ag_wsX00
set_option maxRecDepth 20000 in
theorem glX11_letter_15 : GoodIn wsX11_letter (wsX80) := goodIn_sub (fun _ h => List.mem_cons_of_mem _ (List.mem_append_left _ (List.mem_append_left _ (List.mem_append_left _ (List.mem_append_left _ (List.mem_append_left _ (List.mem_append_right _ (h)))))))) ag_wsX80
set_option maxRecDepth 20000 in
theorem ggX11_letter_X11_mend : GoodIn wsX11_letter wsX11_mend := goodIn_c (glX11_letter_6 _ (List.mem_of_getElem? (i := 3) rfl)) (goodIn_app (goodIn_app (goodIn_app (goodIn_app (goodIn_app (goodIn_c (glX11_letter_1 _ (List.mem_of_getElem? (i := 17) rfl)) (goodIn_c (glX11_letter_0 _ (List.mem_of_getElem? (i := 9) rfl)) (goodIn_c (glX11_letter_6 _ (List.mem_of_getElem? (i := 4) rfl)) (goodIn_c (glX11_letter_6 _ (List.mem_of_getElem? (i := 5) rfl)) (goodIn_c (glX11_letter_6 _ (List.mem_of_getElem? (i := 6) rfl)) (goodIn_c (glX11_letter_6 _ (List.mem_of_getElem? (i := 7) rfl)) (goodIn_c (glX11_letter_6 _ (List.mem_of_getElem? (i := 8) rfl)) (goodIn_c (glX11_letter_6 _ (List.mem_of_getElem? (i := 9) rfl)) (goodIn_c (glX11_letter_6 _ (List.mem_of_getElem? (i := 10) rfl)) (goodIn_c (glX11_letter_1 _ (List.mem_of_getElem? (i := 14) rfl)) (goodIn_c (glX11_letter_6 _ (List.mem_of_getElem? (i := 11) rfl)) (goodIn_c (glX11_letter_6 _ (List.mem_of_getElem? (i := 12) rfl)) (goodIn_c (glX11_letter_6 _ (List.mem_of_getElem? (i := 13) rfl)) (goodIn_c (glX11_letter_6 _ (List.mem_of_getElem? (i := 14) rfl)) (goodIn_c (glX11_letter_6 _ (List.mem_of_getElem? (i := 15) rfl)) (goodIn_c (glX11_letter_6 _ (List.mem_of_getElem? (i := 16) rfl)) (goodIn_c (glX11_letter_6 _ (List.mem_of_getElem? (i := 17) rfl)) (goodIn_c (glX11_letter_6 _ (List.mem_of_getElem? (i := 18) rfl)) (goodIn_c (glX11_letter_6 _ (List.mem_of_getElem? (i := 19) rfl)) (goodIn_c (glX11_letter_6 _ (List.mem_of_getElem? (i := 20) rfl)) (goodIn_c (glX11_letter_6 _ (List.mem_of_getElem? (i := 21) rfl)) (goodIn_c (glX11_letter_6 _ (List.mem_of_getElem? (i := 22) rfl)) (goodIn_c (glX11_letter_6 _ (List.mem_of_getElem? (i := 23) rfl)) (goodIn_c (glX11_letter_7 _ (List.mem_of_getElem? (i := 0) rfl)) (goodIn_n))))))))))))))))))))))))) (goodIn_app (goodIn_c (glX11_letter_7 _ (List.mem_of_getElem? (i := 1) rfl)) (goodIn_c (glX11_letter_7 _ (List.mem_of_getElem? (i := 2) rfl)) (goodIn_c (glX11_letter_7 _ (List.mem_of_getElem? (i := 3) rfl)) (goodIn_c (glX11_letter_7 _ (List.mem_of_getElem? (i := 4) rfl)) (goodIn_c (glX11_letter_7 _ (List.mem_of_getElem? (i := 5) rfl)) (goodIn_c (glX11_letter_7 _ (List.mem_of_getElem? (i := 6) rfl)) (goodIn_c (glX11_letter_7 _ (List.mem_of_getElem? (i := 7) rfl)) (goodIn_c (glX11_letter_7 _ (List.mem_of_getElem? (i := 8) rfl)) (goodIn_c (glX11_letter_7 _ (List.mem_of_getElem? (i := 9) rfl)) (goodIn_c (glX11_letter_7 _ (List.mem_of_getElem? (i := 10) rfl)) (goodIn_c (glX11_letter_7 _ (List.mem_of_getElem? (i := 11) rfl)) (goodIn_c (glX11_letter_7 _ (List.mem_of_getElem? (i := 12) rfl)) (goodIn_c (glX11_letter_7 _ (List.mem_of_getElem? (i := 13) rfl)) (goodIn_c (glX11_letter_7 _ (List.mem_of_getElem? (i := 14) rfl)) (goodIn_c (glX11_letter_7 _ (List.mem_of_getElem? (i := 15) rfl)) (goodIn_c (glX11_letter_7 _ (List.mem_of_getElem? (i := 16) rfl)) (goodIn_c (glX11_letter_7 _ (List.mem_of_getElem? (i := 17) rfl)) (goodIn_c (glX11_letter_7 _ (List.mem_of_getElem? (i := 18) rfl)) (goodIn_c (glX11_letter_7 _ (List.mem_of_getElem? (i := 19) rfl)) (goodIn_c (glX11_letter_7 _ (List.mem_of_getElem? (i := 20) rfl)) (goodIn_c (glX11_letter_7 _ (List.mem_of_getElem? (i := 21) rfl)) (goodIn_c (glX11_letter_7 _ (List.mem_of_getElem? (i := 22) rfl)) (goodIn_c (glX11_letter_7 _ (List.mem_of_getElem? (i := 23) rfl)) (goodIn_c (glX11_letter_8 _ (List.mem_of_getElem? (i := 0) rfl)) (goodIn_n))))))))))))))))))))))))) (goodIn_c (glX11_letter_8 _ (List.mem_of_getElem? (i := 1) rfl)) (goodIn_c (glX11_letter_8 _ (List.mem_of_getElem? (i := 2) rfl)) (goodIn_c (glX11_letter_8 _ (List.mem_of_getElem? (i := 3) rfl)) (goodIn_c (glX11_letter_8 _ (List.mem_of_getElem? (i := 4) rfl)) (goodIn_n))))))) (glX11_letter_11)) (glX11_letter_12)) (glX11_letter_14)) (glX11_letter_15))
set_option maxRecDepth 20000 in
theorem gX11_letter_X11_mend : GoodIn wsX11_letter (wsV RX11 191 RX11 yX11_mend wsX11_mend) := goodIn_app (goodIn_c (glX11_letter_6 _ (List.mem_of_getElem? (i := 0) rfl)) (goodIn_c (glX11_letter_6 _ (List.mem_of_getElem? (i := 1) rfl)) (goodIn_c (glX11_letter_6 _ (List.mem_of_getElem? (i := 2) rfl)) (goodIn_c (glX11_letter_1 _ (List.mem_of_getElem? (i := 14) rfl)) (goodIn_n))))) ggX11_letter_X11_mend
set_option maxRecDepth 20000 in
theorem glX11_letter_16 : GoodIn wsX11_letter (wsX50) := goodIn_sub (fun _ h => List.mem_cons_of_mem _ (List.mem_append_left _ (List.mem_append_left _ (List.mem_append_left _ (List.mem_append_left _ (List.mem_append_right _ (h))))))) ag_wsX50
set_option maxRecDepth 20000 in
theorem ggX11_letter_X11_isPaid : GoodIn wsX11_letter wsX11_isPaid := goodIn_c (glX11_letter_8 _ (List.mem_of_getElem? (i := 8) rfl)) (goodIn_app (goodIn_app (goodIn_app (goodIn_app (goodIn_app (goodIn_app (goodIn_c (glX11_letter_1 _ (List.mem_of_getElem? (i := 18) rfl)) (goodIn_c (glX11_letter_8 _ (List.mem_of_getElem? (i := 9) rfl)) (goodIn_c (glX11_letter_8 _ (List.mem_of_getElem? (i := 10) rfl)) (goodIn_c (glX11_letter_8 _ (List.mem_of_getElem? (i := 11) rfl)) (goodIn_c (glX11_letter_8 _ (List.mem_of_getElem? (i := 12) rfl)) (goodIn_c (glX11_letter_1 _ (List.mem_of_getElem? (i := 14) rfl)) (goodIn_c (glX11_letter_8 _ (List.mem_of_getElem? (i := 13) rfl)) (goodIn_c (glX11_letter_6 _ (List.mem_of_getElem? (i := 12) rfl)) (goodIn_c (glX11_letter_6 _ (List.mem_of_getElem? (i := 4) rfl)) (goodIn_c (glX11_letter_6 _ (List.mem_of_getElem? (i := 13) rfl)) (goodIn_c (glX11_letter_6 _ (List.mem_of_getElem? (i := 14) rfl)) (goodIn_c (glX11_letter_6 _ (List.mem_of_getElem? (i := 15) rfl)) (goodIn_c (glX11_letter_6 _ (List.mem_of_getElem? (i := 16) rfl)) (goodIn_c (glX11_letter_6 _ (List.mem_of_getElem? (i := 17) rfl)) (goodIn_c (glX11_letter_6 _ (List.mem_of_getElem? (i := 18) rfl)) (goodIn_c (glX11_letter_6 _ (List.mem_of_getElem? (i := 19) rfl)) (goodIn_c (glX11_letter_6 _ (List.mem_of_getElem? (i := 20) rfl)) (goodIn_c (glX11_letter_6 _ (List.mem_of_getElem? (i := 21) rfl)) (goodIn_c (glX11_letter_6 _ (List.mem_of_getElem? (i := 22) rfl)) (goodIn_c (glX11_letter_6 _ (List.mem_of_getElem? (i := 23) rfl)) (goodIn_c (glX11_letter_7 _ (List.mem_of_getElem? (i := 0) rfl)) (goodIn_c (glX11_letter_7 _ (List.mem_of_getElem? (i := 1) rfl)) (goodIn_c (glX11_letter_7 _ (List.mem_of_getElem? (i := 2) rfl)) (goodIn_c (glX11_letter_7 _ (List.mem_of_getElem? (i := 3) rfl)) (goodIn_n))))))))))))))))))))))))) (goodIn_c (glX11_letter_7 _ (List.mem_of_getElem? (i := 4) rfl)) (goodIn_c (glX11_letter_7 _ (List.mem_of_getElem? (i := 5) rfl)) (goodIn_c (glX11_letter_7 _ (List.mem_of_getElem? (i := 6) rfl)) (goodIn_c (glX11_letter_7 _ (List.mem_of_getElem? (i := 7) rfl)) (goodIn_c (glX11_letter_7 _ (List.mem_of_getElem? (i := 8) rfl)) (goodIn_c (glX11_letter_7 _ (List.mem_of_getElem? (i := 9) rfl)) (goodIn_c (glX11_letter_7 _ (List.mem_of_getElem? (i := 10) rfl)) (goodIn_c (glX11_letter_7 _ (List.mem_of_getElem? (i := 11) rfl)) (goodIn_c (glX11_letter_7 _ (List.mem_of_getElem? (i := 12) rfl)) (goodIn_c (glX11_letter_7 _ (List.mem_of_getElem? (i := 13) rfl)) (goodIn_c (glX11_letter_7 _ (List.mem_of_getElem? (i := 14) rfl)) (goodIn_c (glX11_letter_8 _ (List.mem_of_getElem? (i := 14) rfl)) (goodIn_c (glX11_letter_8 _ (List.mem_of_getElem? (i := 15) rfl)) (goodIn_c (glX11_letter_8 _ (List.mem_of_getElem? (i := 16) rfl)) (goodIn_c (glX11_letter_8 _ (List.mem_of_getElem? (i := 17) rfl)) (goodIn_c (glX11_letter_8 _ (List.mem_of_getElem? (i := 18) rfl)) (goodIn_c (glX11_letter_8 _ (List.mem_of_getElem? (i := 19) rfl)) (goodIn_n))))))))))))))))))) (glX11_letter_11)) (glX11_letter_12)) (glX11_letter_14)) (glX11_letter_15)) (glX11_letter_16))
set_option maxRecDepth 20000 in
theorem gX11_letter_X11_isPaid : GoodIn wsX11_letter (wsV RX11 195 RX11 yX11_isPaid wsX11_isPaid) := goodIn_app (goodIn_c (glX11_letter_8 _ (List.mem_of_getElem? (i := 5) rfl)) (goodIn_c (glX11_letter_8 _ (List.mem_of_getElem? (i := 6) rfl)) (goodIn_c (glX11_letter_8 _ (List.mem_of_getElem? (i := 7) rfl)) (goodIn_c (glX11_letter_1 _ (List.mem_of_getElem? (i := 14) rfl)) (goodIn_n))))) ggX11_letter_X11_isPaid
set_option maxRecDepth 20000 in
theorem ggX11_letter_X11_needRoomForOrder : GoodIn wsX11_letter wsX11_needRoomForOrder := goodIn_ca (goodIn_r _ [216, 3, 4, 217, 266, 267, 268, 269, 270, 271, 272, 273, 274, 275, 276, 277, 278, 279, 280, 281] rfl (by decide +kernel)) (goodIn_sub (fun _ h => List.mem_cons_of_mem _ (List.mem_append_right _ h)) (by decide +kernel))
set_option maxRecDepth 20000 in
theorem gX11_letter_X11_needRoomForOrder : GoodIn wsX11_letter (wsV RX11 198 RX11 yX11_needRoomForOrder wsX11_needRoomForOrder) := goodIn_app (goodIn_c (glX11_letter_8 _ (List.mem_of_getElem? (i := 20) rfl)) (goodIn_c (glX11_letter_8 _ (List.mem_of_getElem? (i := 21) rfl)) (goodIn_c (glX11_letter_8 _ (List.mem_of_getElem? (i := 22) rfl)) (goodIn_c (glX11_letter_1 _ (List.mem_of_getElem? (i := 14) rfl)) (goodIn_n))))) ggX11_letter_X11_needRoomForOrder
set_option maxRecDepth 20000 in
theorem glX11_letter_9 : GoodIn wsX11_letter (wsX11_letter_r10) := goodIn_sub (fun _ h => List.mem_cons_of_mem _ (List.mem_append_left _ (List.mem_append_left _ (List.mem_append_left _ (List.mem_append_left _ (List.mem_append_left _ (List.mem_append_left _ (List.mem_append_left _ (List.mem_append_left _ (List.mem_append_left _ (List.mem_append_left _ (List.mem_append_right _ (List.mem_append_right _ (List.mem_append_right _ (List.mem_append_right _ (List.mem_append_right _ (List.mem_append_right _ (List.mem_append_right _ (List.mem_append_right _ (List.mem_append_right _ (List.mem_append_left _ (h)))))))))))))))))))))) (by decide +kernel)
set_option maxRecDepth 20000 in
theorem glX11_letter_10 : GoodIn wsX11_letter (wsX11_letter_r11) := goodIn_sub (fun _ h => List.mem_cons_of_mem _ (List.mem_append_left _ (List.mem_append_left _ (List.mem_append_left _ (List.mem_append_left _ (List.mem_append_left _ (List.mem_append_left _ (List.mem_append_left _ (List.mem_append_left _ (List.mem_append_left _ (List.mem_append_left _ (List.mem_append_right _ (List.mem_append_right _ (List.mem_append_right _ (List.mem_append_right _ (List.mem_append_right _ (List.mem_append_right _ (List.mem_append_right _ (List.mem_append_right _ (List.mem_append_right _ (List.mem_append_right _ (h)))))))))))))))))))))) (by decide +kernel)
set_option maxRecDepth 20000 in
theorem glX11_letter_17 : GoodIn wsX11_letter (wsX30) := goodIn_sub (fun _ h => List.mem_cons_of_mem _ (List.mem_append_left _ (List.mem_append_left _ (List.mem_append_left _ (List.mem_append_right _ (h)))))) ag_wsX30
set_option maxRecDepth 20000 in
theorem glX11_letter_18 : GoodIn wsX11_letter (wsX100) := goodIn_sub (fun _ h => List.mem_cons_of_mem _ (List.mem_append_left _ (List.mem_append_left _ (List.mem_append_right _ (h))))) ag_wsX100
set_option maxRecDepth 20000 in
theorem ggX11_letter_X11_makeOrder : GoodIn wsX11_letter wsX11_makeOrder := goodIn_c (glX11_letter_9 _ (List.mem_of_getElem? (i := 4) rfl)) (goodIn_app (goodIn_app (goodIn_app (goodIn_app (goodIn_app (goodIn_app (goodIn_app (goodIn_app (goodIn_c (glX11_letter_9 _ (List.mem_of_getElem? (i := 5) rfl)) (goodIn_c (glX11_letter_9 _ (List.mem_of_getElem? (i := 6) rfl)) (goodIn_c (glX11_letter_9 _ (List.mem_of_getElem? (i := 7) rfl)) (goodIn_c (glX11_letter_6 _ (List.mem_of_getElem? (i := 13) rfl)) (goodIn_c (glX11_letter_1 _ (List.mem_of_getElem? (i := 18) rfl)) (goodIn_c (glX11_letter_8 _ (List.mem_of_getElem? (i := 9) rfl)) (goodIn_c (glX11_letter_6 _ (List.mem_of_getElem? (i := 12) rfl)) (goodIn_c (glX11_letter_6 _ (List.mem_of_getElem? (i := 4) rfl)) (goodIn_c (glX11_letter_9 _ (List.mem_of_getElem? (i := 8) rfl)) (goodIn_c (glX11_letter_9 _ (List.mem_of_getElem? (i := 9) rfl)) (goodIn_c (glX11_letter_9 _ (List.mem_of_getElem? (i := 10) rfl)) (goodIn_c (glX11_letter_6 _ (List.mem_of_getElem? (i := 14) rfl)) (goodIn_c (glX11_letter_9 _ (List.mem_of_getElem? (i := 11) rfl)) (goodIn_c (glX11_letter_9 _ (List.mem_of_getElem? (i := 0) rfl)) (goodIn_c (glX11_letter_8 _ (List.mem_of_getElem? (i := 10) rfl)) (goodIn_c (glX11_letter_8 _ (List.mem_of_getElem? (i := 11) rfl)) (goodIn_c (glX11_letter_8 _ (List.mem_of_getElem? (i := 12) rfl)) (goodIn_c (glX11_letter_1 _ (List.mem_of_getElem? (i := 14) rfl)) (goodIn_c (glX11_letter_8 _ (List.mem_of_getElem? (i := 13) rfl)) (goodIn_c (glX11_letter_6 _ (List.mem_of_getElem? (i := 15) rfl)) (goodIn_c (glX11_letter_6 _ (List.mem_of_getElem? (i := 16) rfl)) (goodIn_c (glX11_letter_6 _ (List.mem_of_getElem? (i := 17) rfl)) (goodIn_c (glX11_letter_6 _ (List.mem_of_getElem? (i := 18) rfl)) (goodIn_c (glX11_letter_6 _ (List.mem_of_getElem? (i := 19) rfl)) (goodIn_n))))))))))))))))))))))))) (goodIn_app (goodIn_c (glX11_letter_6 _ (List.mem_of_getElem? (i := 20) rfl)) (goodIn_c (glX11_letter_6 _ (List.mem_of_getElem? (i := 21) rfl)) (goodIn_c (glX11_letter_6 _ (List.mem_of_getElem? (i := 22) rfl)) (goodIn_c (glX11_letter_6 _ (List.mem_of_getElem? (i := 23) rfl)) (goodIn_c (glX11_letter_7 _ (List.mem_of_getElem? (i := 0) rfl)) (goodIn_c (glX11_letter_7 _ (List.mem_of_getElem? (i := 1) rfl)) (goodIn_c (glX11_letter_7 _ (List.mem_of_getElem? (i := 2) rfl)) (goodIn_c (glX11_letter_7 _ (List.mem_of_getElem? (i := 3) rfl)) (goodIn_c (glX11_letter_7 _ (List.mem_of_getElem? (i := 4) rfl)) (goodIn_c (glX11_letter_7 _ (List.mem_of_getElem? (i := 5) rfl)) (goodIn_c (glX11_letter_7 _ (List.mem_of_getElem? (i := 6) rfl)) (goodIn_c (glX11_letter_7 _ (List.mem_of_getElem? (i := 7) rfl)) (goodIn_c (glX11_letter_7 _ (List.mem_of_getElem? (i := 8) rfl)) (goodIn_c (glX11_letter_7 _ (List.mem_of_getElem? (i := 9) rfl)) (goodIn_c (glX11_letter_7 _ (List.mem_of_getElem? (i := 10) rfl)) (goodIn_c (glX11_letter_7 _ (List.mem_of_getElem? (i := 11) rfl)) (goodIn_c (glX11_letter_7 _ (List.mem_of_getElem? (i := 12) rfl)) (goodIn_c (glX11_letter_7 _ (List.mem_of_getElem? (i := 13) rfl)) (goodIn_c (glX11_letter_7 _ (List.mem_of_getElem? (i := 14) rfl)) (goodIn_c (glX11_letter_8 _ (List.mem_of_getElem? (i := 14) rfl)) (goodIn_c (glX11_letter_8 _ (List.mem_of_getElem? (i := 15) rfl)) (goodIn_c (glX11_letter_8 _ (List.mem_of_getElem? (i := 16) rfl)) (goodIn_c (glX11_letter_8 _ (List.mem_of_getElem? (i := 17) rfl)) (goodIn_c (glX11_letter_8 _ (List.mem_of_getElem? (i := 18) rfl)) (goodIn_n))))))))))))))))))))))))) (goodIn_app (goodIn_c (glX11_letter_8 _ (List.mem_of_getElem? (i := 19) rfl)) (goodIn_c (glX11_letter_9 _ (List.mem_of_getElem? (i := 12) rfl)) (goodIn_c (glX11_letter_9 _ (List.mem_of_getElem? (i := 13) rfl)) (goodIn_c (glX11_letter_9 _ (List.mem_of_getElem? (i := 14) rfl)) (goodIn_c (glX11_letter_9 _ (List.mem_of_getElem? (i := 15) rfl)) (goodIn_c (glX11_letter_0 _ (List.mem_of_getElem? (i := 17) rfl)) (goodIn_c (glX11_letter_0 _ (List.mem_of_getElem? (i := 18) rfl)) (goodIn_c (glX11_letter_9 _ (List.mem_of_getElem? (i := 16) rfl)) (goodIn_c (glX11_letter_9 _ (List.mem_of_getElem? (i := 17) rfl)) (goodIn_c (glX11_letter_9 _ (List.mem_of_getElem? (i := 18) rfl)) (goodIn_c (glX11_letter_9 _ (List.mem_of_getElem? (i := 19) rfl)) (goodIn_c (glX11_letter_9 _ (List.mem_of_getElem? (i := 20) rfl)) (goodIn_c (glX11_letter_9 _ (List.mem_of_getElem? (i := 21) rfl)) (goodIn_c (glX11_letter_9 _ (List.mem_of_getElem? (i := 22) rfl)) (goodIn_c (glX11_letter_9 _ (List.mem_of_getElem? (i := 23) rfl)) (goodIn_c (glX11_letter_10 _ (List.mem_of_getElem? (i := 0) rfl)) (goodIn_c (glX11_letter_10 _ (List.mem_of_getElem? (i := 1) rfl)) (goodIn_c (glX11_letter_10 _ (List.mem_of_getElem? (i := 2) rfl)) (goodIn_c (glX11_letter_10 _ (List.mem_of_getElem? (i := 3) rfl)) (goodIn_c (glX11_letter_10 _ (List.mem_of_getElem? (i := 4) rfl)) (goodIn_c (glX11_letter_10 _ (List.mem_of_getElem? (i := 5) rfl)) (goodIn_c (glX11_letter_10 _ (List.mem_of_getElem? (i := 6) rfl)) (goodIn_c (glX11_letter_10 _ (List.mem_of_getElem? (i := 7) rfl)) (goodIn_c (glX11_letter_10 _ (List.mem_of_getElem? (i := 8) rfl)) (goodIn_n))))))))))))))))))))))))) (goodIn_c (glX11_letter_10 _ (List.mem_of_getElem? (i := 9) rfl)) (goodIn_c (glX11_letter_10 _ (List.mem_of_getElem? (i := 10) rfl)) (goodIn_n)))))) (glX11_letter_17)) (glX11_letter_12)) (glX11_letter_11)) (glX11_letter_18)) (glX11_letter_14)) (glX11_letter_15)) (glX11_letter_16))
set_option maxRecDepth 20000 in
theorem gX11_letter_X11_makeOrder : GoodIn wsX11_letter (wsV RX11 207 RX11 yX11_makeOrder wsX11_makeOrder) := goodIn_app (goodIn_c (glX11_letter_9 _ (List.mem_of_getElem? (i := 1) rfl)) (goodIn_c (glX11_letter_9 _ (List.mem_of_getElem? (i := 2) rfl)) (goodIn_c (glX11_letter_9 _ (List.mem_of_getElem? (i := 3) rfl)) (goodIn_c (glX11_letter_1 _ (List.mem_of_getElem? (i := 14) rfl)) (goodIn_n))))) ggX11_letter_X11_makeOrder
set_option maxRecDepth 20000 in
theorem ggX11_letter_X11_waitingDoubts : GoodIn wsX11_letter wsX11_waitingDoubts := goodIn_c (glX11_letter_10 _ (List.mem_of_getElem? (i := 14) rfl)) (goodIn_app (goodIn_app (goodIn_c (glX11_letter_0 _ (List.mem_of_getElem? (i := 11) rfl)) (goodIn_c (glX11_letter_0 _ (List.mem_of_getElem? (i := 13) rfl)) (goodIn_c (glX11_letter_0 _ (List.mem_of_getElem? (i := 12) rfl)) (goodIn_n)))) (glX11_letter_12)) (glX11_letter_11))
set_option maxRecDepth 20000 in
theorem gX11_letter_X11_waitingDoubts : GoodIn wsX11_letter (wsV RX11 211 RX11 yX11_waitingDoubts wsX11_waitingDoubts) := goodIn_app (goodIn_c (glX11_letter_10 _ (List.mem_of_getElem? (i := 11) rfl)) (goodIn_c (glX11_letter_10 _ (List.mem_of_getElem? (i := 12) rfl)) (goodIn_c (glX11_letter_10 _ (List.mem_of_getElem? (i := 13) rfl)) (goodIn_c (glX11_letter_1 _ (List.mem_of_getElem? (i := 14) rfl)) (goodIn_n))))) ggX11_letter_X11_waitingDoubts
theorem dX11_letter_0 : decode cX11_letter 0 = .ok (.new 40, 3) := qdE187 (by decide +kernel)
theorem dX11_letter_3 : decode cX11_letter 3 = .ok (.dup, 1) := qdE89 (by decide +kernel)
theorem dX11_letter_4 : decode cX11_letter 4 = .ok (.invokespecial 184, 3) := qdE183 (by decide +kernel)
theorem dX11_letter_7 : decode cX11_letter 7 = .ok (.astore_n 1, 1) := qdE76 (by decide +kernel)
theorem dX11_letter_8 : decode cX11_letter 8 = .ok (.aload_n 0, 1) := qdE42 (by decide +kernel)
theorem dX11_letter_9 : decode cX11_letter 9 = .ok (.getfield 10, 3) := qdE180 (by decide +kernel)
theorem dX11_letter_12 : decode cX11_letter 12 = .ok (.invokevirtual 154, 3) := qdE182 (by decide +kernel)
theorem dX11_letter_15 : decode cX11_letter 15 = .ok (.aload_n 0, 1) := qdE42 (by decide +kernel)
theorem dX11_letter_16 : decode cX11_letter 16 = .ok (.aload_n 1, 1) := qdE43 (by decide +kernel)
theorem dX11_letter_17 : decode cX11_letter 17 = .ok (.invokevirtual 185, 3) := qdE182 (by decide +kernel)
theorem dX11_letter_20 : decode cX11_letter 20 = .ok (.aload_n 0, 1) := qdE42 (by decide +kernel)
theorem dX11_letter_21 : decode cX11_letter 21 = .ok (.invokevirtual 164, 3) := qdE182 (by decide +kernel)
theorem dX11_letter_24 : decode cX11_letter 24 = .ok (.aload_n 0, 1) := qdE42 (by decide +kernel)
theorem dX11_letter_25 : decode cX11_letter 25 = .ok (.getfield 72, 3) := qdE180 (by decide +kernel)
theorem dX11_letter_28 : decode cX11_letter 28 = .ok (.iconst (-1), 1) := qdE2 (by decide +kernel)
theorem dX11_letter_29 : decode cX11_letter 29 = .ok (.if_icmp .eq 13, 3) := qdE159 (by decide +kernel)
theorem dX11_letter_32 : decode cX11_letter 32 = .ok (.new 91, 3) := qdE187 (by decide +kernel)
theorem dX11_letter_35 : decode cX11_letter 35 = .ok (.dup, 1) := qdE89 (by decide +kernel)
theorem dX11_letter_36 : decode cX11_letter 36 = .ok (.ldc 189, 2) := qdE18 (by decide +kernel)
theorem dX11_letter_38 : decode cX11_letter 38 = .ok (.invokespecial 95, 3) := qdE183 (by decide +kernel)
theorem dX11_letter_41 : decode cX11_letter 41 = .ok (.athrow, 1) := qdE191 (by decide +kernel)
theorem dX11_letter_42 : decode cX11_letter 42 = .ok (.aload_n 0, 1) := qdE42 (by decide +kernel)
theorem dX11_letter_43 : decode cX11_letter 43 = .ok (.aload_n 1, 1) := qdE43 (by decide +kernel)
theorem dX11_letter_44 : decode cX11_letter 44 = .ok (.invokevirtual 191, 3) := qdE182 (by decide +kernel)
theorem dX11_letter_47 : decode cX11_letter 47 = .ok (.istore_n 2, 1) := qdE61 (by decide +kernel)
theorem dX11_letter_48 : decode cX11_letter 48 = .ok (.iload_n 2, 1) := qdE28 (by decide +kernel)
theorem dX11_letter_49 : decode cX11_letter 49 = .ok (.ifCond .eq 39, 3) := qdE153 (by decide +kernel)
theorem dX11_letter_52 : decode cX11_letter 52 = .ok (.aload_n 0, 1) := qdE42 (by decide +kernel)
theorem dX11_letter_53 : decode cX11_letter 53 = .ok (.aload_n 1, 1) := qdE43 (by decide +kernel)
theorem dX11_letter_54 : decode cX11_letter 54 = .ok (.invokevirtual 195, 3) := qdE182 (by decide +kernel)
theorem dX11_letter_57 : decode cX11_letter 57 = .ok (.ifCond .eq 31, 3) := qdE153 (by decide +kernel)
theorem dX11_letter_60 : decode cX11_letter 60 = .ok (.aload_n 0, 1) := qdE42 (by decide +kernel)
theorem dX11_letter_61 : decode cX11_letter 61 = .ok (.invokevirtual 198, 3) := qdE182 (by decide +kernel)
theorem dX11_letter_64 : decode cX11_letter 64 = .ok (.aload_n 1, 1) := qdE43 (by decide +kernel)
theorem dX11_letter_65 : decode cX11_letter 65 = .ok (.getfield 201, 3) := qdE180 (by decide +kernel)
theorem dX11_letter_68 : decode cX11_letter 68 = .ok (.iconst 1, 1) := qdE4 (by decide +kernel)
theorem dX11_letter_69 : decode cX11_letter 69 = .ok (.if_icmp .ne 13, 3) := qdE160 (by decide +kernel)
theorem dX11_letter_72 : decode cX11_letter 72 = .ok (.aload_n 0, 1) := qdE42 (by decide +kernel)
theorem dX11_letter_73 : decode cX11_letter 73 = .ok (.dup, 1) := qdE89 (by decide +kernel)
theorem dX11_letter_74 : decode cX11_letter 74 = .ok (.getfield 204, 3) := qdE180 (by decide +kernel)
theorem dX11_letter_77 : decode cX11_letter 77 = .ok (.iconst 1, 1) := qdE4 (by decide +kernel)
theorem dX11_letter_78 : decode cX11_letter 78 = .ok (.iadd, 1) := qdE96 (by decide +kernel)
theorem dX11_letter_79 : decode cX11_letter 79 = .ok (.putfield 204, 3) := qdE181 (by decide +kernel)
theorem dX11_letter_82 : decode cX11_letter 82 = .ok (.aload_n 0, 1) := qdE42 (by decide +kernel)
theorem dX11_letter_83 : decode cX11_letter 83 = .ok (.aload_n 1, 1) := qdE43 (by decide +kernel)
theorem dX11_letter_84 : decode cX11_letter 84 = .ok (.invokevirtual 207, 3) := qdE182 (by decide +kernel)
theorem dX11_letter_87 : decode cX11_letter 87 = .ok (.ireturn, 1) := qdE172 (by decide +kernel)
theorem dX11_letter_88 : decode cX11_letter 88 = .ok (.aload_n 0, 1) := qdE42 (by decide +kernel)
theorem dX11_letter_89 : decode cX11_letter 89 = .ok (.invokevirtual 211, 3) := qdE182 (by decide +kernel)
theorem dX11_letter_92 : decode cX11_letter 92 = .ok (.bipush 20, 2) := qdE16 (by decide +kernel)
theorem dX11_letter_94 : decode cX11_letter 94 = .ok (.if_icmp .ge 13, 3) := qdE162 (by decide +kernel)
theorem dX11_letter_97 : decode cX11_letter 97 = .ok (.aload_n 0, 1) := qdE42 (by decide +kernel)
theorem dX11_letter_98 : decode cX11_letter 98 = .ok (.getfield 215, 3) := qdE180 (by decide +kernel)
theorem dX11_letter_101 : decode cX11_letter 101 = .ok (.sipush 512, 3) := qdE17 (by decide +kernel)
theorem dX11_letter_104 : decode cX11_letter 104 = .ok (.if_icmp .lt 13, 3) := qdE161 (by decide +kernel)
theorem dX11_letter_107 : decode cX11_letter 107 = .ok (.new 107, 3) := qdE187 (by decide +kernel)
theorem dX11_letter_110 : decode cX11_letter 110 = .ok (.dup, 1) := qdE89 (by decide +kernel)
theorem dX11_letter_111 : decode cX11_letter 111 = .ok (.ldc 218, 2) := qdE18 (by decide +kernel)
theorem dX11_letter_113 : decode cX11_letter 113 = .ok (.invokespecial 111, 3) := qdE183 (by decide +kernel)
theorem dX11_letter_116 : decode cX11_letter 116 = .ok (.athrow, 1) := qdE191 (by decide +kernel)
theorem dX11_letter_117 : decode cX11_letter 117 = .ok (.aload_n 1, 1) := qdE43 (by decide +kernel)
theorem dX11_letter_118 : decode cX11_letter 118 = .ok (.iconst 1, 1) := qdE4 (by decide +kernel)
theorem dX11_letter_119 : decode cX11_letter 119 = .ok (.putfield 220, 3) := qdE181 (by decide +kernel)
theorem dX11_letter_122 : decode cX11_letter 122 = .ok (.aload_n 0, 1) := qdE42 (by decide +kernel)
theorem dX11_letter_123 : decode cX11_letter 123 = .ok (.getfield 42, 3) := qdE180 (by decide +kernel)
theorem dX11_letter_126 : decode cX11_letter 126 = .ok (.aload_n 0, 1) := qdE42 (by decide +kernel)
theorem dX11_letter_127 : decode cX11_letter 127 = .ok (.getfield 215, 3) := qdE180 (by decide +kernel)
theorem dX11_letter_130 : decode cX11_letter 130 = .ok (.aload_n 1, 1) := qdE43 (by decide +kernel)
theorem dX11_letter_131 : decode cX11_letter 131 = .ok (.aastore, 1) := qdE83 (by decide +kernel)
theorem dX11_letter_132 : decode cX11_letter 132 = .ok (.aload_n 0, 1) := qdE42 (by decide +kernel)
theorem dX11_letter_133 : decode cX11_letter 133 = .ok (.dup, 1) := qdE89 (by decide +kernel)
theorem dX11_letter_134 : decode cX11_letter 134 = .ok (.getfield 215, 3) := qdE180 (by decide +kernel)
theorem dX11_letter_137 : decode cX11_letter 137 = .ok (.iconst 1, 1) := qdE4 (by decide +kernel)
theorem dX11_letter_138 : decode cX11_letter 138 = .ok (.iadd, 1) := qdE96 (by decide +kernel)
theorem dX11_letter_139 : decode cX11_letter 139 = .ok (.putfield 215, 3) := qdE181 (by decide +kernel)
theorem dX11_letter_142 : decode cX11_letter 142 = .ok (.iconst (-1), 1) := qdE2 (by decide +kernel)
theorem dX11_letter_143 : decode cX11_letter 143 = .ok (.aload_n 0, 1) := qdE42 (by decide +kernel)
theorem dX11_letter_144 : decode cX11_letter 144 = .ok (.getfield 215, 3) := qdE180 (by decide +kernel)
theorem dX11_letter_147 : decode cX11_letter 147 = .ok (.isub, 1) := qdE100 (by decide +kernel)
theorem dX11_letter_148 : decode cX11_letter 148 = .ok (.ireturn, 1) := qdE172 (by decide +kernel)
theorem dX11_fault_0 : decode cX11_fault 0 = .ok (.aload_n 0, 1) := qdE42 (by decide +kernel)
theorem dX11_fault_1 : decode cX11_fault 1 = .ok (.getfield 72, 3) := qdE180 (by decide +kernel)
theorem dX11_fault_4 : decode cX11_fault 4 = .ok (.ireturn, 1) := qdE172 (by decide +kernel)
set_option maxRecDepth 20000 in
theorem ggX11_doubt_X11_doubtAt : GoodIn wsX11_doubt wsX11_doubtAt := goodIn_ca (goodIn_r _ [13, 14, 15, 16, 17, 18, 19, 12, 20, 31, 32, 33, 34, 35, 36, 37, 38, 39, 40, 41, 42, 43, 44, 45, 46] rfl (by decide +kernel)) (goodIn_sub (fun _ h => List.mem_cons_of_mem _ (List.mem_append_right _ h)) (by decide +kernel))
set_option maxRecDepth 20000 in
theorem glX11_doubt_0 : GoodIn wsX11_doubt ([Cond.classLink RX11 169 "java/util/NoSuchElementException", Cond.initialized "java/util/NoSuchElementException", Cond.fieldLink RX11 220 "PostHouse$Letter" "waits" "Z", Cond.fieldLink RX11 201 "PostHouse$Letter" "mendings" "I", Cond.fieldLink RX11 228 "PostHouse$Letter" "lines" "I", Cond.fieldLink RX11 231 "PostHouse$Letter" "known" "I", Cond.fieldLink RX11 234 "PostHouse$Letter" "sum" "I", Cond.fieldLink RX11 237 "PostHouse$Letter" "money" "I", Cond.methodLink RX11 224 yX11_doubtAt, Cond.instanceMethod yX11_doubtAt, Cond.selects RX11 yX11_doubtAt yX11_doubtAt, Cond.initialized RX11, Cond.code yX11_doubtAt cX11_doubtAt 2 (some (.object "PostHouse$Letter")), Cond.classLink RX11 322 "java/lang/IndexOutOfBoundsException", Cond.initialized "java/lang/IndexOutOfBoundsException", Cond.fieldLink RX11 215 "PostHouse" "doubtCount" "I", Cond.fieldLink RX11 42 "PostHouse" "doubts" "[LPostHouse$Letter;", Cond.methodLink RX11 87 yX11_within, Cond.static yX11_within, Cond.code yX11_within cX11_within 3 (some .boolean)]) := goodIn_sub (fun _ h => List.mem_cons_of_mem _ (List.mem_append_left _ (List.mem_append_left _ (List.mem_append_left _ (List.mem_append_left _ (h)))))) (by decide +kernel)
set_option maxRecDepth 20000 in
theorem gX11_doubt_X11_doubtAt : GoodIn wsX11_doubt (wsV RX11 224 RX11 yX11_doubtAt wsX11_doubtAt) := goodIn_app (goodIn_c (glX11_doubt_0 _ (List.mem_of_getElem? (i := 8) rfl)) (goodIn_c (glX11_doubt_0 _ (List.mem_of_getElem? (i := 9) rfl)) (goodIn_c (glX11_doubt_0 _ (List.mem_of_getElem? (i := 10) rfl)) (goodIn_c (glX11_doubt_0 _ (List.mem_of_getElem? (i := 11) rfl)) (goodIn_n))))) ggX11_doubt_X11_doubtAt
theorem dX11_doubt_0 : decode cX11_doubt 0 = .ok (.aload_n 0, 1) := qdE42 (by decide +kernel)
theorem dX11_doubt_1 : decode cX11_doubt 1 = .ok (.iload_n 1, 1) := qdE27 (by decide +kernel)
theorem dX11_doubt_2 : decode cX11_doubt 2 = .ok (.invokevirtual 224, 3) := qdE182 (by decide +kernel)
theorem dX11_doubt_5 : decode cX11_doubt 5 = .ok (.astore_n 3, 1) := qdE78 (by decide +kernel)
theorem dX11_doubt_6 : decode cX11_doubt 6 = .ok (.iload_n 2, 1) := qdE28 (by decide +kernel)
theorem dX11_doubt_7 : decode cX11_doubt 7 = .ok (.tableswitch 75 0 5 #[37, 50, 55, 60, 65, 70], 37) := by decide +kernel
theorem dX11_doubt_44 : decode cX11_doubt 44 = .ok (.aload_n 3, 1) := qdE45 (by decide +kernel)
theorem dX11_doubt_45 : decode cX11_doubt 45 = .ok (.getfield 220, 3) := qdE180 (by decide +kernel)
theorem dX11_doubt_48 : decode cX11_doubt 48 = .ok (.ifCond .eq 7, 3) := qdE153 (by decide +kernel)
theorem dX11_doubt_51 : decode cX11_doubt 51 = .ok (.iconst 1, 1) := qdE4 (by decide +kernel)
theorem dX11_doubt_52 : decode cX11_doubt 52 = .ok (.goto 4, 3) := qdE167 (by decide +kernel)
theorem dX11_doubt_55 : decode cX11_doubt 55 = .ok (.iconst 0, 1) := qdE3 (by decide +kernel)
theorem dX11_doubt_56 : decode cX11_doubt 56 = .ok (.ireturn, 1) := qdE172 (by decide +kernel)
theorem dX11_doubt_57 : decode cX11_doubt 57 = .ok (.aload_n 3, 1) := qdE45 (by decide +kernel)
theorem dX11_doubt_58 : decode cX11_doubt 58 = .ok (.getfield 201, 3) := qdE180 (by decide +kernel)
theorem dX11_doubt_61 : decode cX11_doubt 61 = .ok (.ireturn, 1) := qdE172 (by decide +kernel)
theorem dX11_doubt_62 : decode cX11_doubt 62 = .ok (.aload_n 3, 1) := qdE45 (by decide +kernel)
theorem dX11_doubt_63 : decode cX11_doubt 63 = .ok (.getfield 228, 3) := qdE180 (by decide +kernel)
theorem dX11_doubt_66 : decode cX11_doubt 66 = .ok (.ireturn, 1) := qdE172 (by decide +kernel)
theorem dX11_doubt_67 : decode cX11_doubt 67 = .ok (.aload_n 3, 1) := qdE45 (by decide +kernel)
theorem dX11_doubt_68 : decode cX11_doubt 68 = .ok (.getfield 231, 3) := qdE180 (by decide +kernel)
theorem dX11_doubt_71 : decode cX11_doubt 71 = .ok (.ireturn, 1) := qdE172 (by decide +kernel)
theorem dX11_doubt_72 : decode cX11_doubt 72 = .ok (.aload_n 3, 1) := qdE45 (by decide +kernel)
theorem dX11_doubt_73 : decode cX11_doubt 73 = .ok (.getfield 234, 3) := qdE180 (by decide +kernel)
theorem dX11_doubt_76 : decode cX11_doubt 76 = .ok (.ireturn, 1) := qdE172 (by decide +kernel)
theorem dX11_doubt_77 : decode cX11_doubt 77 = .ok (.aload_n 3, 1) := qdE45 (by decide +kernel)
theorem dX11_doubt_78 : decode cX11_doubt 78 = .ok (.getfield 237, 3) := qdE180 (by decide +kernel)
theorem dX11_doubt_81 : decode cX11_doubt 81 = .ok (.ireturn, 1) := qdE172 (by decide +kernel)
theorem dX11_doubt_82 : decode cX11_doubt 82 = .ok (.new 169, 3) := qdE187 (by decide +kernel)
theorem dX11_doubt_85 : decode cX11_doubt 85 = .ok (.dup, 1) := qdE89 (by decide +kernel)
theorem dX11_doubt_86 : decode cX11_doubt 86 = .ok (.ldc 240, 2) := qdE18 (by decide +kernel)
theorem dX11_doubt_88 : decode cX11_doubt 88 = .ok (.invokespecial 173, 3) := qdE183 (by decide +kernel)
theorem dX11_doubt_91 : decode cX11_doubt 91 = .ok (.athrow, 1) := qdE191 (by decide +kernel)
set_option maxRecDepth 20000 in
theorem ggX11_settle_X11_doubtAt : GoodIn wsX11_settle wsX11_doubtAt := goodIn_ca (goodIn_r _ [8, 9, 10, 11, 12, 13, 14, 7, 15, 111, 112, 113, 114, 115, 116, 117, 118, 119, 120, 121, 122, 123, 124, 125, 126] rfl (by decide +kernel)) (goodIn_sub (fun _ h => List.mem_cons_of_mem _ (List.mem_append_left _ (List.mem_append_right _ h))) (by decide +kernel))
set_option maxRecDepth 20000 in
theorem glX11_settle_0 : GoodIn wsX11_settle (wsX11_settle_r1) := goodIn_sub (fun _ h => List.mem_cons_of_mem _ (List.mem_append_left _ (List.mem_append_left _ (List.mem_append_left _ (List.mem_append_left _ (List.mem_append_left _ (List.mem_append_left _ (List.mem_append_left _ (List.mem_append_left _ (List.mem_append_left _ (List.mem_append_left _ (List.mem_append_left _ (h))))))))))))) (by decide +kernel)
set_option maxRecDepth 20000 in
theorem gX11_settle_X11_doubtAt : GoodIn wsX11_settle (wsV RX11 224 RX11 yX11_doubtAt wsX11_doubtAt) := goodIn_app (goodIn_c (glX11_settle_0 _ (List.mem_of_getElem? (i := 3) rfl)) (goodIn_c (glX11_settle_0 _ (List.mem_of_getElem? (i := 4) rfl)) (goodIn_c (glX11_settle_0 _ (List.mem_of_getElem? (i := 5) rfl)) (goodIn_c (glX11_settle_0 _ (List.mem_of_getElem? (i := 6) rfl)) (goodIn_n))))) ggX11_settle_X11_doubtAt
set_option maxRecDepth 20000 in
theorem glX11_settle_1 : GoodIn wsX11_settle (wsX11_settle_r2) := goodIn_sub (fun _ h => List.mem_cons_of_mem _ (List.mem_append_left _ (List.mem_append_left _ (List.mem_append_left _ (List.mem_append_left _ (List.mem_append_left _ (List.mem_append_left _ (List.mem_append_left _ (List.mem_append_left _ (List.mem_append_left _ (List.mem_append_left _ (List.mem_append_right _ (List.mem_append_left _ (h)))))))))))))) (by decide +kernel)
set_option maxRecDepth 20000 in
theorem glX11_settle_2 : GoodIn wsX11_settle (wsX11_settle_r3) := goodIn_sub (fun _ h => List.mem_cons_of_mem _ (List.mem_append_left _ (List.mem_append_left _ (List.mem_append_left _ (List.mem_append_left _ (List.mem_append_left _ (List.mem_append_left _ (List.mem_append_left _ (List.mem_append_left _ (List.mem_append_left _ (List.mem_append_left _ (List.mem_append_right _ (List.mem_append_right _ (List.mem_append_left _ (h))))))))))))))) (by decide +kernel)
set_option maxRecDepth 20000 in
theorem glX11_settle_5 : GoodIn wsX11_settle (wsX20) := goodIn_sub (fun _ h => List.mem_cons_of_mem _ (List.mem_append_left _ (List.mem_append_left _ (List.mem_append_left _ (List.mem_append_left _ (List.mem_append_left _ (List.mem_append_left _ (List.mem_append_left _ (List.mem_append_left _ (List.mem_append_left _ (List.mem_append_right _ (h)))))))))))) ag_wsX20
set_option maxRecDepth 20000 in
theorem glX11_settle_6 : GoodIn wsX11_settle (wsX110) := goodIn_sub (fun _ h => List.mem_cons_of_mem _ (List.mem_append_left _ (List.mem_append_left _ (List.mem_append_left _ (List.mem_append_left _ (List.mem_append_left _ (List.mem_append_left _ (List.mem_append_left _ (List.mem_append_left _ (List.mem_append_right _ (h))))))))))) ag_wsX110
set_option maxRecDepth 20000 in
theorem glX11_settle_7 : GoodIn wsX11_settle (wsX00) := goodIn_sub (fun _ h => List.mem_cons_of_mem _ (List.mem_append_left _ (List.mem_append_left _ (List.mem_append_left _ (List.mem_append_left _ (List.mem_append_left _ (List.mem_append_left _ (List.mem_append_left _ (List.mem_append_right _ (h)))))))))) ag_wsX00
set_option maxRecDepth 20000 in
theorem glX11_settle_8 : GoodIn wsX11_settle (wsX80) := goodIn_sub (fun _ h => List.mem_cons_of_mem _ (List.mem_append_left _ (List.mem_append_left _ (List.mem_append_left _ (List.mem_append_left _ (List.mem_append_left _ (List.mem_append_left _ (List.mem_append_right _ (h))))))))) ag_wsX80
set_option maxRecDepth 20000 in
theorem glX11_settle_9 : GoodIn wsX11_settle (wsX50) := goodIn_sub (fun _ h => List.mem_cons_of_mem _ (List.mem_append_left _ (List.mem_append_left _ (List.mem_append_left _ (List.mem_append_left _ (List.mem_append_left _ (List.mem_append_right _ (h)))))))) ag_wsX50
set_option maxRecDepth 20000 in
theorem ggX11_settle_X11_isPaid : GoodIn wsX11_settle wsX11_isPaid := goodIn_c (glX11_settle_0 _ (List.mem_of_getElem? (i := 18) rfl)) (goodIn_app (goodIn_app (goodIn_app (goodIn_app (goodIn_app (goodIn_app (goodIn_c (glX11_settle_0 _ (List.mem_of_getElem? (i := 19) rfl)) (goodIn_c (glX11_settle_0 _ (List.mem_of_getElem? (i := 20) rfl)) (goodIn_c (glX11_settle_0 _ (List.mem_of_getElem? (i := 21) rfl)) (goodIn_c (glX11_settle_0 _ (List.mem_of_getElem? (i := 22) rfl)) (goodIn_c (glX11_settle_0 _ (List.mem_of_getElem? (i := 23) rfl)) (goodIn_c (glX11_settle_0 _ (List.mem_of_getElem? (i := 6) rfl)) (goodIn_c (glX11_settle_1 _ (List.mem_of_getElem? (i := 0) rfl)) (goodIn_c (glX11_settle_1 _ (List.mem_of_getElem? (i := 1) rfl)) (goodIn_c (glX11_settle_1 _ (List.mem_of_getElem? (i := 2) rfl)) (goodIn_c (glX11_settle_1 _ (List.mem_of_getElem? (i := 3) rfl)) (goodIn_c (glX11_settle_1 _ (List.mem_of_getElem? (i := 4) rfl)) (goodIn_c (glX11_settle_1 _ (List.mem_of_getElem? (i := 5) rfl)) (goodIn_c (glX11_settle_1 _ (List.mem_of_getElem? (i := 6) rfl)) (goodIn_c (glX11_settle_1 _ (List.mem_of_getElem? (i := 7) rfl)) (goodIn_c (glX11_settle_1 _ (List.mem_of_getElem? (i := 8) rfl)) (goodIn_c (glX11_settle_1 _ (List.mem_of_getElem? (i := 9) rfl)) (goodIn_c (glX11_settle_1 _ (List.mem_of_getElem? (i := 10) rfl)) (goodIn_c (glX11_settle_1 _ (List.mem_of_getElem? (i := 11) rfl)) (goodIn_c (glX11_settle_1 _ (List.mem_of_getElem? (i := 12) rfl)) (goodIn_c (glX11_settle_1 _ (List.mem_of_getElem? (i := 13) rfl)) (goodIn_c (glX11_settle_1 _ (List.mem_of_getElem? (i := 14) rfl)) (goodIn_c (glX11_settle_1 _ (List.mem_of_getElem? (i := 15) rfl)) (goodIn_c (glX11_settle_1 _ (List.mem_of_getElem? (i := 16) rfl)) (goodIn_c (glX11_settle_1 _ (List.mem_of_getElem? (i := 17) rfl)) (goodIn_n))))))))))))))))))))))))) (goodIn_c (glX11_settle_1 _ (List.mem_of_getElem? (i := 18) rfl)) (goodIn_c (glX11_settle_1 _ (List.mem_of_getElem? (i := 19) rfl)) (goodIn_c (glX11_settle_1 _ (List.mem_of_getElem? (i := 20) rfl)) (goodIn_c (glX11_settle_1 _ (List.mem_of_getElem? (i := 21) rfl)) (goodIn_c (glX11_settle_1 _ (List.mem_of_getElem? (i := 22) rfl)) (goodIn_c (glX11_settle_1 _ (List.mem_of_getElem? (i := 23) rfl)) (goodIn_c (glX11_settle_2 _ (List.mem_of_getElem? (i := 0) rfl)) (goodIn_c (glX11_settle_2 _ (List.mem_of_getElem? (i := 1) rfl)) (goodIn_c (glX11_settle_2 _ (List.mem_of_getElem? (i := 2) rfl)) (goodIn_c (glX11_settle_0 _ (List.mem_of_getElem? (i := 13) rfl)) (goodIn_c (glX11_settle_0 _ (List.mem_of_getElem? (i := 14) rfl)) (goodIn_c (glX11_settle_2 _ (List.mem_of_getElem? (i := 3) rfl)) (goodIn_c (glX11_settle_2 _ (List.mem_of_getElem? (i := 4) rfl)) (goodIn_c (glX11_settle_2 _ (List.mem_of_getElem? (i := 5) rfl)) (goodIn_c (glX11_settle_2 _ (List.mem_of_getElem? (i := 6) rfl)) (goodIn_c (glX11_settle_2 _ (List.mem_of_getElem? (i := 7) rfl)) (goodIn_c (glX11_settle_2 _ (List.mem_of_getElem? (i := 8) rfl)) (goodIn_n))))))))))))))))))) (glX11_settle_5)) (glX11_settle_6)) (glX11_settle_7)) (glX11_settle_8)) (glX11_settle_9))
set_option maxRecDepth 20000 in
theorem gX11_settle_X11_isPaid : GoodIn wsX11_settle (wsV RX11 195 RX11 yX11_isPaid wsX11_isPaid) := goodIn_app (goodIn_c (glX11_settle_0 _ (List.mem_of_getElem? (i := 15) rfl)) (goodIn_c (glX11_settle_0 _ (List.mem_of_getElem? (i := 16) rfl)) (goodIn_c (glX11_settle_0 _ (List.mem_of_getElem? (i := 17) rfl)) (goodIn_c (glX11_settle_0 _ (List.mem_of_getElem? (i := 6) rfl)) (goodIn_n))))) ggX11_settle_X11_isPaid
set_option maxRecDepth 20000 in
theorem ggX11_settle_X11_needRoomForOrder : GoodIn wsX11_settle wsX11_needRoomForOrder := goodIn_ca (goodIn_r _ [61, 62, 63, 64, 111, 112, 113, 114, 115, 116, 117, 118, 119, 120, 121, 122, 123, 124, 125, 126] rfl (by decide +kernel)) (goodIn_sub (fun _ h => List.mem_cons_of_mem _ (List.mem_append_right _ h)) (by decide +kernel))
set_option maxRecDepth 20000 in
theorem gX11_settle_X11_needRoomForOrder : GoodIn wsX11_settle (wsV RX11 198 RX11 yX11_needRoomForOrder wsX11_needRoomForOrder) := goodIn_app (goodIn_c (glX11_settle_2 _ (List.mem_of_getElem? (i := 9) rfl)) (goodIn_c (glX11_settle_2 _ (List.mem_of_getElem? (i := 10) rfl)) (goodIn_c (glX11_settle_2 _ (List.mem_of_getElem? (i := 11) rfl)) (goodIn_c (glX11_settle_0 _ (List.mem_of_getElem? (i := 6) rfl)) (goodIn_n))))) ggX11_settle_X11_needRoomForOrder
set_option maxRecDepth 20000 in
theorem glX11_settle_3 : GoodIn wsX11_settle (wsX11_settle_r4) := goodIn_sub (fun _ h => List.mem_cons_of_mem _ (List.mem_append_left _ (List.mem_append_left _ (List.mem_append_left _ (List.mem_append_left _ (List.mem_append_left _ (List.mem_append_left _ (List.mem_append_left _ (List.mem_append_left _ (List.mem_append_left _ (List.mem_append_left _ (List.mem_append_right _ (List.mem_append_right _ (List.mem_append_right _ (List.mem_append_left _ (h)))))))))))))))) (by decide +kernel)
set_option maxRecDepth 20000 in
theorem glX11_settle_4 : GoodIn wsX11_settle (wsX11_settle_r5) := goodIn_sub (fun _ h => List.mem_cons_of_mem _ (List.mem_append_left _ (List.mem_append_left _ (List.mem_append_left _ (List.mem_append_left _ (List.mem_append_left _ (List.mem_append_left _ (List.mem_append_left _ (List.mem_append_left _ (List.mem_append_left _ (List.mem_append_left _ (List.mem_append_right _ (List.mem_append_right _ (List.mem_append_right _ (List.mem_append_right _ (h)))))))))))))))) (by decide +kernel)
set_option maxRecDepth 20000 in
theorem glX11_settle_10 : GoodIn wsX11_settle (wsX30) := goodIn_sub (fun _ h => List.mem_cons_of_mem _ (List.mem_append_left _ (List.mem_append_left _ (List.mem_append_left _ (List.mem_append_left _ (List.mem_append_right _ (h))))))) ag_wsX30
set_option maxRecDepth 20000 in
theorem glX11_settle_11 : GoodIn wsX11_settle (wsX100) := goodIn_sub (fun _ h => List.mem_cons_of_mem _ (List.mem_append_left _ (List.mem_append_left _ (List.mem_append_left _ (List.mem_append_right _ (h)))))) ag_wsX100
set_option maxRecDepth 20000 in
theorem ggX11_settle_X11_makeOrder : GoodIn wsX11_settle wsX11_makeOrder := goodIn_c (glX11_settle_2 _ (List.mem_of_getElem? (i := 19) rfl)) (goodIn_app (goodIn_app (goodIn_app (goodIn_app (goodIn_app (goodIn_app (goodIn_app (goodIn_app (goodIn_c (glX11_settle_2 _ (List.mem_of_getElem? (i := 20) rfl)) (goodIn_c (glX11_settle_2 _ (List.mem_of_getElem? (i := 21) rfl)) (goodIn_c (glX11_settle_2 _ (List.mem_of_getElem? (i := 22) rfl)) (goodIn_c (glX11_settle_1 _ (List.mem_of_getElem? (i := 3) rfl)) (goodIn_c (glX11_settle_0 _ (List.mem_of_getElem? (i := 19) rfl)) (goodIn_c (glX11_settle_0 _ (List.mem_of_getElem? (i := 20) rfl)) (goodIn_c (glX11_settle_1 _ (List.mem_of_getElem? (i := 1) rfl)) (goodIn_c (glX11_settle_1 _ (List.mem_of_getElem? (i := 2) rfl)) (goodIn_c (glX11_settle_2 _ (List.mem_of_getElem? (i := 23) rfl)) (goodIn_c (glX11_settle_3 _ (List.mem_of_getElem? (i := 0) rfl)) (goodIn_c (glX11_settle_3 _ (List.mem_of_getElem? (i := 1) rfl)) (goodIn_c (glX11_settle_1 _ (List.mem_of_getElem? (i := 4) rfl)) (goodIn_c (glX11_settle_3 _ (List.mem_of_getElem? (i := 2) rfl)) (goodIn_c (glX11_settle_2 _ (List.mem_of_getElem? (i := 15) rfl)) (goodIn_c (glX11_settle_0 _ (List.mem_of_getElem? (i := 21) rfl)) (goodIn_c (glX11_settle_0 _ (List.mem_of_getElem? (i := 22) rfl)) (goodIn_c (glX11_settle_0 _ (List.mem_of_getElem? (i := 23) rfl)) (goodIn_c (glX11_settle_0 _ (List.mem_of_getElem? (i := 6) rfl)) (goodIn_c (glX11_settle_1 _ (List.mem_of_getElem? (i := 0) rfl)) (goodIn_c (glX11_settle_1 _ (List.mem_of_getElem? (i := 5) rfl)) (goodIn_c (glX11_settle_1 _ (List.mem_of_getElem? (i := 6) rfl)) (goodIn_c (glX11_settle_1 _ (List.mem_of_getElem? (i := 7) rfl)) (goodIn_c (glX11_settle_1 _ (List.mem_of_getElem? (i := 8) rfl)) (goodIn_c (glX11_settle_1 _ (List.mem_of_getElem? (i := 9) rfl)) (goodIn_n))))))))))))))))))))))))) (goodIn_app (goodIn_c (glX11_settle_1 _ (List.mem_of_getElem? (i := 10) rfl)) (goodIn_c (glX11_settle_1 _ (List.mem_of_getElem? (i := 11) rfl)) (goodIn_c (glX11_settle_1 _ (List.mem_of_getElem? (i := 12) rfl)) (goodIn_c (glX11_settle_1 _ (List.mem_of_getElem? (i := 13) rfl)) (goodIn_c (glX11_settle_1 _ (List.mem_of_getElem? (i := 14) rfl)) (goodIn_c (glX11_settle_1 _ (List.mem_of_getElem? (i := 15) rfl)) (goodIn_c (glX11_settle_1 _ (List.mem_of_getElem? (i := 16) rfl)) (goodIn_c (glX11_settle_1 _ (List.mem_of_getElem? (i := 17) rfl)) (goodIn_c (glX11_settle_1 _ (List.mem_of_getElem? (i := 18) rfl)) (goodIn_c (glX11_settle_1 _ (List.mem_of_getElem? (i := 19) rfl)) (goodIn_c (glX11_settle_1 _ (List.mem_of_getElem? (i := 20) rfl)) (goodIn_c (glX11_settle_1 _ (List.mem_of_getElem? (i := 21) rfl)) (goodIn_c (glX11_settle_1 _ (List.mem_of_getElem? (i := 22) rfl)) (goodIn_c (glX11_settle_1 _ (List.mem_of_getElem? (i := 23) rfl)) (goodIn_c (glX11_settle_2 _ (List.mem_of_getElem? (i := 0) rfl)) (goodIn_c (glX11_settle_2 _ (List.mem_of_getElem? (i := 1) rfl)) (goodIn_c (glX11_settle_2 _ (List.mem_of_getElem? (i := 2) rfl)) (goodIn_c (glX11_settle_0 _ (List.mem_of_getElem? (i := 13) rfl)) (goodIn_c (glX11_settle_0 _ (List.mem_of_getElem? (i := 14) rfl)) (goodIn_c (glX11_settle_2 _ (List.mem_of_getElem? (i := 3) rfl)) (goodIn_c (glX11_settle_2 _ (List.mem_of_getElem? (i := 4) rfl)) (goodIn_c (glX11_settle_2 _ (List.mem_of_getElem? (i := 5) rfl)) (goodIn_c (glX11_settle_2 _ (List.mem_of_getElem? (i := 6) rfl)) (goodIn_c (glX11_settle_2 _ (List.mem_of_getElem? (i := 7) rfl)) (goodIn_n))))))))))))))))))))))))) (goodIn_app (goodIn_c (glX11_settle_2 _ (List.mem_of_getElem? (i := 8) rfl)) (goodIn_c (glX11_settle_3 _ (List.mem_of_getElem? (i := 3) rfl)) (goodIn_c (glX11_settle_3 _ (List.mem_of_getElem? (i := 4) rfl)) (goodIn_c (glX11_settle_3 _ (List.mem_of_getElem? (i := 5) rfl)) (goodIn_c (glX11_settle_3 _ (List.mem_of_getElem? (i := 6) rfl)) (goodIn_c (glX11_settle_3 _ (List.mem_of_getElem? (i := 7) rfl)) (goodIn_c (glX11_settle_3 _ (List.mem_of_getElem? (i := 8) rfl)) (goodIn_c (glX11_settle_3 _ (List.mem_of_getElem? (i := 9) rfl)) (goodIn_c (glX11_settle_3 _ (List.mem_of_getElem? (i := 10) rfl)) (goodIn_c (glX11_settle_3 _ (List.mem_of_getElem? (i := 11) rfl)) (goodIn_c (glX11_settle_3 _ (List.mem_of_getElem? (i := 12) rfl)) (goodIn_c (glX11_settle_3 _ (List.mem_of_getElem? (i := 13) rfl)) (goodIn_c (glX11_settle_3 _ (List.mem_of_getElem? (i := 14) rfl)) (goodIn_c (glX11_settle_3 _ (List.mem_of_getElem? (i := 15) rfl)) (goodIn_c (glX11_settle_3 _ (List.mem_of_getElem? (i := 16) rfl)) (goodIn_c (glX11_settle_3 _ (List.mem_of_getElem? (i := 17) rfl)) (goodIn_c (glX11_settle_3 _ (List.mem_of_getElem? (i := 18) rfl)) (goodIn_c (glX11_settle_3 _ (List.mem_of_getElem? (i := 19) rfl)) (goodIn_c (glX11_settle_3 _ (List.mem_of_getElem? (i := 20) rfl)) (goodIn_c (glX11_settle_3 _ (List.mem_of_getElem? (i := 21) rfl)) (goodIn_c (glX11_settle_3 _ (List.mem_of_getElem? (i := 22) rfl)) (goodIn_c (glX11_settle_3 _ (List.mem_of_getElem? (i := 23) rfl)) (goodIn_c (glX11_settle_4 _ (List.mem_of_getElem? (i := 0) rfl)) (goodIn_c (glX11_settle_4 _ (List.mem_of_getElem? (i := 1) rfl)) (goodIn_n))))))))))))))))))))))))) (goodIn_c (glX11_settle_4 _ (List.mem_of_getElem? (i := 2) rfl)) (goodIn_c (glX11_settle_4 _ (List.mem_of_getElem? (i := 3) rfl)) (goodIn_n)))))) (glX11_settle_10)) (glX11_settle_6)) (glX11_settle_5)) (glX11_settle_11)) (glX11_settle_7)) (glX11_settle_8)) (glX11_settle_9))
set_option maxRecDepth 20000 in
theorem gX11_settle_X11_makeOrder : GoodIn wsX11_settle (wsV RX11 207 RX11 yX11_makeOrder wsX11_makeOrder) := goodIn_app (goodIn_c (glX11_settle_2 _ (List.mem_of_getElem? (i := 16) rfl)) (goodIn_c (glX11_settle_2 _ (List.mem_of_getElem? (i := 17) rfl)) (goodIn_c (glX11_settle_2 _ (List.mem_of_getElem? (i := 18) rfl)) (goodIn_c (glX11_settle_0 _ (List.mem_of_getElem? (i := 6) rfl)) (goodIn_n))))) ggX11_settle_X11_makeOrder
theorem dX11_settle_0 : decode cX11_settle 0 = .ok (.aload_n 0, 1) := qdE42 (by decide +kernel)
theorem dX11_settle_1 : decode cX11_settle 1 = .ok (.iload_n 1, 1) := qdE27 (by decide +kernel)
theorem dX11_settle_2 : decode cX11_settle 2 = .ok (.invokevirtual 224, 3) := qdE182 (by decide +kernel)
theorem dX11_settle_5 : decode cX11_settle 5 = .ok (.astore_n 3, 1) := qdE78 (by decide +kernel)
theorem dX11_settle_6 : decode cX11_settle 6 = .ok (.aload_n 3, 1) := qdE45 (by decide +kernel)
theorem dX11_settle_7 : decode cX11_settle 7 = .ok (.getfield 220, 3) := qdE180 (by decide +kernel)
theorem dX11_settle_10 : decode cX11_settle 10 = .ok (.ifCond .ne 13, 3) := qdE154 (by decide +kernel)
theorem dX11_settle_13 : decode cX11_settle 13 = .ok (.new 242, 3) := qdE187 (by decide +kernel)
theorem dX11_settle_16 : decode cX11_settle 16 = .ok (.dup, 1) := qdE89 (by decide +kernel)
theorem dX11_settle_17 : decode cX11_settle 17 = .ok (.ldc 244, 2) := qdE18 (by decide +kernel)
theorem dX11_settle_19 : decode cX11_settle 19 = .ok (.invokespecial 246, 3) := qdE183 (by decide +kernel)
theorem dX11_settle_22 : decode cX11_settle 22 = .ok (.athrow, 1) := qdE191 (by decide +kernel)
theorem dX11_settle_23 : decode cX11_settle 23 = .ok (.iload_n 2, 1) := qdE28 (by decide +kernel)
theorem dX11_settle_24 : decode cX11_settle 24 = .ok (.ifCond .ne 10, 3) := qdE154 (by decide +kernel)
theorem dX11_settle_27 : decode cX11_settle 27 = .ok (.aload_n 3, 1) := qdE45 (by decide +kernel)
theorem dX11_settle_28 : decode cX11_settle 28 = .ok (.iconst 0, 1) := qdE3 (by decide +kernel)
theorem dX11_settle_29 : decode cX11_settle 29 = .ok (.putfield 220, 3) := qdE181 (by decide +kernel)
theorem dX11_settle_32 : decode cX11_settle 32 = .ok (.iconst (-1), 1) := qdE2 (by decide +kernel)
theorem dX11_settle_33 : decode cX11_settle 33 = .ok (.ireturn, 1) := qdE172 (by decide +kernel)
theorem dX11_settle_34 : decode cX11_settle 34 = .ok (.aload_n 0, 1) := qdE42 (by decide +kernel)
theorem dX11_settle_35 : decode cX11_settle 35 = .ok (.aload_n 3, 1) := qdE45 (by decide +kernel)
theorem dX11_settle_36 : decode cX11_settle 36 = .ok (.invokevirtual 195, 3) := qdE182 (by decide +kernel)
theorem dX11_settle_39 : decode cX11_settle 39 = .ok (.ifCond .ne 5, 3) := qdE154 (by decide +kernel)
theorem dX11_settle_42 : decode cX11_settle 42 = .ok (.iconst (-1), 1) := qdE2 (by decide +kernel)
theorem dX11_settle_43 : decode cX11_settle 43 = .ok (.ireturn, 1) := qdE172 (by decide +kernel)
theorem dX11_settle_44 : decode cX11_settle 44 = .ok (.aload_n 0, 1) := qdE42 (by decide +kernel)
theorem dX11_settle_45 : decode cX11_settle 45 = .ok (.invokevirtual 198, 3) := qdE182 (by decide +kernel)
theorem dX11_settle_48 : decode cX11_settle 48 = .ok (.aload_n 3, 1) := qdE45 (by decide +kernel)
theorem dX11_settle_49 : decode cX11_settle 49 = .ok (.iconst 0, 1) := qdE3 (by decide +kernel)
theorem dX11_settle_50 : decode cX11_settle 50 = .ok (.putfield 220, 3) := qdE181 (by decide +kernel)
theorem dX11_settle_53 : decode cX11_settle 53 = .ok (.aload_n 0, 1) := qdE42 (by decide +kernel)
theorem dX11_settle_54 : decode cX11_settle 54 = .ok (.aload_n 3, 1) := qdE45 (by decide +kernel)
theorem dX11_settle_55 : decode cX11_settle 55 = .ok (.invokevirtual 207, 3) := qdE182 (by decide +kernel)
theorem dX11_settle_58 : decode cX11_settle 58 = .ok (.ireturn, 1) := qdE172 (by decide +kernel)
set_option maxRecDepth 20000 in
theorem glX11_days_0 : GoodIn wsX11_days (wsX11_days_r1) := goodIn_sub (fun _ h => List.mem_cons_of_mem _ (List.mem_append_left _ (List.mem_append_left _ (List.mem_append_left _ (List.mem_append_left _ (List.mem_append_left _ (List.mem_append_left _ (List.mem_append_left _ (List.mem_append_left _ (List.mem_append_left _ (List.mem_append_left _ (List.mem_append_left _ (h))))))))))))) (by decide +kernel)
set_option maxRecDepth 20000 in
theorem ggX11_days_X11_within : GoodIn wsX11_days wsX11_within := goodIn_c (glX11_days_0 _ (List.mem_of_getElem? (i := 6) rfl)) (goodIn_n)
set_option maxRecDepth 20000 in
theorem gX11_days_X11_within : GoodIn wsX11_days (va_wsS RX11 87 yX11_within wsX11_within) := goodIn_app (goodIn_c (glX11_days_0 _ (List.mem_of_getElem? (i := 3) rfl)) (goodIn_c (glX11_days_0 _ (List.mem_of_getElem? (i := 4) rfl)) (goodIn_c (glX11_days_0 _ (List.mem_of_getElem? (i := 5) rfl)) (goodIn_n)))) ggX11_days_X11_within
set_option maxRecDepth 20000 in
theorem glX11_days_1 : GoodIn wsX11_days (wsX11_days_r2) := goodIn_sub (fun _ h => List.mem_cons_of_mem _ (List.mem_append_left _ (List.mem_append_left _ (List.mem_append_left _ (List.mem_append_left _ (List.mem_append_left _ (List.mem_append_left _ (List.mem_append_left _ (List.mem_append_left _ (List.mem_append_left _ (List.mem_append_left _ (List.mem_append_right _ (List.mem_append_left _ (h)))))))))))))) (by decide +kernel)
set_option maxRecDepth 20000 in
theorem glX11_days_2 : GoodIn wsX11_days (wsX11_days_r3) := goodIn_sub (fun _ h => List.mem_cons_of_mem _ (List.mem_append_left _ (List.mem_append_left _ (List.mem_append_left _ (List.mem_append_left _ (List.mem_append_left _ (List.mem_append_left _ (List.mem_append_left _ (List.mem_append_left _ (List.mem_append_left _ (List.mem_append_left _ (List.mem_append_right _ (List.mem_append_right _ (List.mem_append_left _ (h))))))))))))))) (by decide +kernel)
set_option maxRecDepth 20000 in
theorem glX11_days_3 : GoodIn wsX11_days (wsX11_days_r4) := goodIn_sub (fun _ h => List.mem_cons_of_mem _ (List.mem_append_left _ (List.mem_append_left _ (List.mem_append_left _ (List.mem_append_left _ (List.mem_append_left _ (List.mem_append_left _ (List.mem_append_left _ (List.mem_append_left _ (List.mem_append_left _ (List.mem_append_left _ (List.mem_append_right _ (List.mem_append_right _ (List.mem_append_right _ (List.mem_append_left _ (h)))))))))))))))) (by decide +kernel)
set_option maxRecDepth 20000 in
theorem glX11_days_4 : GoodIn wsX11_days (wsX11_days_r5) := goodIn_sub (fun _ h => List.mem_cons_of_mem _ (List.mem_append_left _ (List.mem_append_left _ (List.mem_append_left _ (List.mem_append_left _ (List.mem_append_left _ (List.mem_append_left _ (List.mem_append_left _ (List.mem_append_left _ (List.mem_append_left _ (List.mem_append_left _ (List.mem_append_right _ (List.mem_append_right _ (List.mem_append_right _ (List.mem_append_right _ (h)))))))))))))))) (by decide +kernel)
set_option maxRecDepth 20000 in
theorem glX11_days_5 : GoodIn wsX11_days (wsX110) := goodIn_sub (fun _ h => List.mem_cons_of_mem _ (List.mem_append_left _ (List.mem_append_left _ (List.mem_append_left _ (List.mem_append_left _ (List.mem_append_left _ (List.mem_append_left _ (List.mem_append_left _ (List.mem_append_left _ (List.mem_append_left _ (List.mem_append_right _ (h)))))))))))) ag_wsX110
set_option maxRecDepth 20000 in
theorem glX11_days_6 : GoodIn wsX11_days (wsX10) := goodIn_sub (fun _ h => List.mem_cons_of_mem _ (List.mem_append_left _ (List.mem_append_left _ (List.mem_append_left _ (List.mem_append_left _ (List.mem_append_left _ (List.mem_append_left _ (List.mem_append_left _ (List.mem_append_left _ (List.mem_append_right _ (h))))))))))) ag_wsX10
set_option maxRecDepth 20000 in
theorem glX11_days_7 : GoodIn wsX11_days (wsX80) := goodIn_sub (fun _ h => List.mem_cons_of_mem _ (List.mem_append_left _ (List.mem_append_left _ (List.mem_append_left _ (List.mem_append_left _ (List.mem_append_left _ (List.mem_append_left _ (List.mem_append_left _ (List.mem_append_right _ (h)))))))))) ag_wsX80
set_option maxRecDepth 20000 in
theorem glX11_days_8 : GoodIn wsX11_days (wsX30) := goodIn_sub (fun _ h => List.mem_cons_of_mem _ (List.mem_append_left _ (List.mem_append_left _ (List.mem_append_left _ (List.mem_append_left _ (List.mem_append_left _ (List.mem_append_left _ (List.mem_append_right _ (h))))))))) ag_wsX30
set_option maxRecDepth 20000 in
theorem glX11_days_9 : GoodIn wsX11_days (wsX40) := goodIn_sub (fun _ h => List.mem_cons_of_mem _ (List.mem_append_left _ (List.mem_append_left _ (List.mem_append_left _ (List.mem_append_left _ (List.mem_append_left _ (List.mem_append_right _ (h)))))))) ag_wsX40
set_option maxRecDepth 20000 in
theorem glX11_days_10 : GoodIn wsX11_days (wsX60) := goodIn_sub (fun _ h => List.mem_cons_of_mem _ (List.mem_append_left _ (List.mem_append_left _ (List.mem_append_left _ (List.mem_append_left _ (List.mem_append_right _ (h))))))) ag_wsX60
set_option maxRecDepth 20000 in
theorem glX11_days_11 : GoodIn wsX11_days (wsX100) := goodIn_sub (fun _ h => List.mem_cons_of_mem _ (List.mem_append_left _ (List.mem_append_left _ (List.mem_append_left _ (List.mem_append_right _ (h)))))) ag_wsX100
set_option maxRecDepth 20000 in
theorem glX11_days_12 : GoodIn wsX11_days (wsX50) := goodIn_sub (fun _ h => List.mem_cons_of_mem _ (List.mem_append_left _ (List.mem_append_left _ (List.mem_append_right _ (h))))) ag_wsX50
set_option maxRecDepth 20000 in
theorem glX11_days_13 : GoodIn wsX11_days (wsX00) := goodIn_sub (fun _ h => List.mem_cons_of_mem _ (List.mem_append_left _ (List.mem_append_right _ (h)))) ag_wsX00
set_option maxRecDepth 20000 in
theorem ggX11_days_X11_passDay : GoodIn wsX11_days wsX11_passDay := goodIn_c (glX11_days_0 _ (List.mem_of_getElem? (i := 10) rfl)) (goodIn_app (goodIn_app (goodIn_app (goodIn_app (goodIn_app (goodIn_app (goodIn_app (goodIn_app (goodIn_app (goodIn_app (goodIn_c (glX11_days_0 _ (List.mem_of_getElem? (i := 2) rfl)) (goodIn_c (glX11_days_0 _ (List.mem_of_getElem? (i := 11) rfl)) (goodIn_c (glX11_days_0 _ (List.mem_of_getElem? (i := 12) rfl)) (goodIn_c (glX11_days_0 _ (List.mem_of_getElem? (i := 13) rfl)) (goodIn_c (glX11_days_0 _ (List.mem_of_getElem? (i := 14) rfl)) (goodIn_c (glX11_days_0 _ (List.mem_of_getElem? (i := 15) rfl)) (goodIn_c (glX11_days_0 _ (List.mem_of_getElem? (i := 16) rfl)) (goodIn_c (glX11_days_0 _ (List.mem_of_getElem? (i := 17) rfl)) (goodIn_c (glX11_days_0 _ (List.mem_of_getElem? (i := 18) rfl)) (goodIn_c (glX11_days_0 _ (List.mem_of_getElem? (i := 19) rfl)) (goodIn_c (glX11_days_0 _ (List.mem_of_getElem? (i := 20) rfl)) (goodIn_c (glX11_days_0 _ (List.mem_of_getElem? (i := 21) rfl)) (goodIn_c (glX11_days_0 _ (List.mem_of_getElem? (i := 22) rfl)) (goodIn_c (glX11_days_0 _ (List.mem_of_getElem? (i := 23) rfl)) (goodIn_c (glX11_days_1 _ (List.mem_of_getElem? (i := 0) rfl)) (goodIn_c (glX11_days_1 _ (List.mem_of_getElem? (i := 1) rfl)) (goodIn_c (glX11_days_0 _ (List.mem_of_getElem? (i := 5) rfl)) (goodIn_c (glX11_days_1 _ (List.mem_of_getElem? (i := 2) rfl)) (goodIn_c (glX11_days_1 _ (List.mem_of_getElem? (i := 3) rfl)) (goodIn_c (glX11_days_1 _ (List.mem_of_getElem? (i := 4) rfl)) (goodIn_c (glX11_days_1 _ (List.mem_of_getElem? (i := 5) rfl)) (goodIn_c (glX11_days_1 _ (List.mem_of_getElem? (i := 6) rfl)) (goodIn_c (glX11_days_1 _ (List.mem_of_getElem? (i := 7) rfl)) (goodIn_c (glX11_days_1 _ (List.mem_of_getElem? (i := 8) rfl)) (goodIn_n))))))))))))))))))))))))) (goodIn_app (goodIn_c (glX11_days_1 _ (List.mem_of_getElem? (i := 9) rfl)) (goodIn_c (glX11_days_1 _ (List.mem_of_getElem? (i := 10) rfl)) (goodIn_c (glX11_days_1 _ (List.mem_of_getElem? (i := 11) rfl)) (goodIn_c (glX11_days_1 _ (List.mem_of_getElem? (i := 12) rfl)) (goodIn_c (glX11_days_1 _ (List.mem_of_getElem? (i := 13) rfl)) (goodIn_c (glX11_days_1 _ (List.mem_of_getElem? (i := 14) rfl)) (goodIn_c (glX11_days_1 _ (List.mem_of_getElem? (i := 15) rfl)) (goodIn_c (glX11_days_1 _ (List.mem_of_getElem? (i := 16) rfl)) (goodIn_c (glX11_days_1 _ (List.mem_of_getElem? (i := 17) rfl)) (goodIn_c (glX11_days_1 _ (List.mem_of_getElem? (i := 18) rfl)) (goodIn_c (glX11_days_1 _ (List.mem_of_getElem? (i := 19) rfl)) (goodIn_c (glX11_days_1 _ (List.mem_of_getElem? (i := 20) rfl)) (goodIn_c (glX11_days_1 _ (List.mem_of_getElem? (i := 21) rfl)) (goodIn_c (glX11_days_1 _ (List.mem_of_getElem? (i := 22) rfl)) (goodIn_c (glX11_days_1 _ (List.mem_of_getElem? (i := 23) rfl)) (goodIn_c (glX11_days_2 _ (List.mem_of_getElem? (i := 0) rfl)) (goodIn_c (glX11_days_2 _ (List.mem_of_getElem? (i := 1) rfl)) (goodIn_c (glX11_days_2 _ (List.mem_of_getElem? (i := 2) rfl)) (goodIn_c (glX11_days_2 _ (List.mem_of_getElem? (i := 3) rfl)) (goodIn_c (glX11_days_2 _ (List.mem_of_getElem? (i := 4) rfl)) (goodIn_c (glX11_days_2 _ (List.mem_of_getElem? (i := 5) rfl)) (goodIn_c (glX11_days_2 _ (List.mem_of_getElem? (i := 6) rfl)) (goodIn_c (glX11_days_2 _ (List.mem_of_getElem? (i := 7) rfl)) (goodIn_c (glX11_days_2 _ (List.mem_of_getElem? (i := 8) rfl)) (goodIn_n))))))))))))))))))))))))) (goodIn_app (goodIn_c (glX11_days_2 _ (List.mem_of_getElem? (i := 9) rfl)) (goodIn_c (glX11_days_2 _ (List.mem_of_getElem? (i := 10) rfl)) (goodIn_c (glX11_days_2 _ (List.mem_of_getElem? (i := 11) rfl)) (goodIn_c (glX11_days_2 _ (List.mem_of_getElem? (i := 12) rfl)) (goodIn_c (glX11_days_2 _ (List.mem_of_getElem? (i := 13) rfl)) (goodIn_c (glX11_days_2 _ (List.mem_of_getElem? (i := 14) rfl)) (goodIn_c (glX11_days_2 _ (List.mem_of_getElem? (i := 15) rfl)) (goodIn_c (glX11_days_2 _ (List.mem_of_getElem? (i := 16) rfl)) (goodIn_c (glX11_days_2 _ (List.mem_of_getElem? (i := 17) rfl)) (goodIn_c (glX11_days_2 _ (List.mem_of_getElem? (i := 18) rfl)) (goodIn_c (glX11_days_2 _ (List.mem_of_getElem? (i := 19) rfl)) (goodIn_c (glX11_days_2 _ (List.mem_of_getElem? (i := 20) rfl)) (goodIn_c (glX11_days_2 _ (List.mem_of_getElem? (i := 21) rfl)) (goodIn_c (glX11_days_2 _ (List.mem_of_getElem? (i := 22) rfl)) (goodIn_c (glX11_days_2 _ (List.mem_of_getElem? (i := 23) rfl)) (goodIn_c (glX11_days_3 _ (List.mem_of_getElem? (i := 0) rfl)) (goodIn_c (glX11_days_3 _ (List.mem_of_getElem? (i := 1) rfl)) (goodIn_c (glX11_days_3 _ (List.mem_of_getElem? (i := 2) rfl)) (goodIn_c (glX11_days_3 _ (List.mem_of_getElem? (i := 3) rfl)) (goodIn_c (glX11_days_3 _ (List.mem_of_getElem? (i := 4) rfl)) (goodIn_c (glX11_days_3 _ (List.mem_of_getElem? (i := 5) rfl)) (goodIn_c (glX11_days_3 _ (List.mem_of_getElem? (i := 6) rfl)) (goodIn_c (glX11_days_3 _ (List.mem_of_getElem? (i := 7) rfl)) (goodIn_c (glX11_days_3 _ (List.mem_of_getElem? (i := 8) rfl)) (goodIn_n))))))))))))))))))))))))) (goodIn_app (goodIn_c (glX11_days_3 _ (List.mem_of_getElem? (i := 9) rfl)) (goodIn_c (glX11_days_3 _ (List.mem_of_getElem? (i := 10) rfl)) (goodIn_c (glX11_days_3 _ (List.mem_of_getElem? (i := 11) rfl)) (goodIn_c (glX11_days_3 _ (List.mem_of_getElem? (i := 12) rfl)) (goodIn_c (glX11_days_3 _ (List.mem_of_getElem? (i := 13) rfl)) (goodIn_c (glX11_days_3 _ (List.mem_of_getElem? (i := 14) rfl)) (goodIn_c (glX11_days_3 _ (List.mem_of_getElem? (i := 15) rfl)) (goodIn_c (glX11_days_3 _ (List.mem_of_getElem? (i := 16) rfl)) (goodIn_c (glX11_days_3 _ (List.mem_of_getElem? (i := 17) rfl)) (goodIn_c (glX11_days_3 _ (List.mem_of_getElem? (i := 18) rfl)) (goodIn_c (glX11_days_3 _ (List.mem_of_getElem? (i := 19) rfl)) (goodIn_c (glX11_days_3 _ (List.mem_of_getElem? (i := 20) rfl)) (goodIn_c (glX11_days_3 _ (List.mem_of_getElem? (i := 21) rfl)) (goodIn_c (glX11_days_3 _ (List.mem_of_getElem? (i := 22) rfl)) (goodIn_c (glX11_days_3 _ (List.mem_of_getElem? (i := 23) rfl)) (goodIn_c (glX11_days_4 _ (List.mem_of_getElem? (i := 0) rfl)) (goodIn_c (glX11_days_4 _ (List.mem_of_getElem? (i := 1) rfl)) (goodIn_c (glX11_days_0 _ (List.mem_of_getElem? (i := 4) rfl)) (goodIn_c (glX11_days_0 _ (List.mem_of_getElem? (i := 6) rfl)) (goodIn_c (glX11_days_4 _ (List.mem_of_getElem? (i := 2) rfl)) (goodIn_c (glX11_days_4 _ (List.mem_of_getElem? (i := 3) rfl)) (goodIn_c (glX11_days_4 _ (List.mem_of_getElem? (i := 4) rfl)) (goodIn_c (glX11_days_4 _ (List.mem_of_getElem? (i := 5) rfl)) (goodIn_c (glX11_days_4 _ (List.mem_of_getElem? (i := 6) rfl)) (goodIn_n))))))))))))))))))))))))) (goodIn_c (glX11_days_4 _ (List.mem_of_getElem? (i := 7) rfl)) (goodIn_c (glX11_days_4 _ (List.mem_of_getElem? (i := 8) rfl)) (goodIn_c (glX11_days_4 _ (List.mem_of_getElem? (i := 9) rfl)) (goodIn_c (glX11_days_4 _ (List.mem_of_getElem? (i := 10) rfl)) (goodIn_c (glX11_days_4 _ (List.mem_of_getElem? (i := 11) rfl)) (goodIn_c (glX11_days_4 _ (List.mem_of_getElem? (i := 12) rfl)) (goodIn_c (glX11_days_4 _ (List.mem_of_getElem? (i := 13) rfl)) (goodIn_c (glX11_days_4 _ (List.mem_of_getElem? (i := 14) rfl)) (goodIn_c (glX11_days_4 _ (List.mem_of_getElem? (i := 15) rfl)) (goodIn_c (glX11_days_4 _ (List.mem_of_getElem? (i := 16) rfl)) (goodIn_c (glX11_days_4 _ (List.mem_of_getElem? (i := 17) rfl)) (goodIn_n)))))))))))))))) (glX11_days_5)) (glX11_days_6)) (glX11_days_7)) (glX11_days_8)) (glX11_days_9)) (glX11_days_10)) (glX11_days_11)) (glX11_days_12)) (glX11_days_13))
set_option maxRecDepth 20000 in
theorem gX11_days_X11_passDay : GoodIn wsX11_days (wsV RX11 249 RX11 yX11_passDay wsX11_passDay) := goodIn_app (goodIn_c (glX11_days_0 _ (List.mem_of_getElem? (i := 7) rfl)) (goodIn_c (glX11_days_0 _ (List.mem_of_getElem? (i := 8) rfl)) (goodIn_c (glX11_days_0 _ (List.mem_of_getElem? (i := 9) rfl)) (goodIn_c (glX11_days_0 _ (List.mem_of_getElem? (i := 5) rfl)) (goodIn_n))))) ggX11_days_X11_passDay
theorem dX11_days_0 : decode cX11_days 0 = .ok (.iload_n 1, 1) := qdE27 (by decide +kernel)
theorem dX11_days_1 : decode cX11_days 1 = .ok (.iconst 0, 1) := qdE3 (by decide +kernel)
theorem dX11_days_2 : decode cX11_days 2 = .ok (.bipush 100, 2) := qdE16 (by decide +kernel)
theorem dX11_days_4 : decode cX11_days 4 = .ok (.invokestatic 87, 3) := qdE184 (by decide +kernel)
theorem dX11_days_7 : decode cX11_days 7 = .ok (.ifCond .ne 13, 3) := qdE154 (by decide +kernel)
theorem dX11_days_10 : decode cX11_days 10 = .ok (.new 91, 3) := qdE187 (by decide +kernel)
theorem dX11_days_13 : decode cX11_days 13 = .ok (.dup, 1) := qdE89 (by decide +kernel)
theorem dX11_days_14 : decode cX11_days 14 = .ok (.ldc 247, 2) := qdE18 (by decide +kernel)
theorem dX11_days_16 : decode cX11_days 16 = .ok (.invokespecial 95, 3) := qdE183 (by decide +kernel)
theorem dX11_days_19 : decode cX11_days 19 = .ok (.athrow, 1) := qdE191 (by decide +kernel)
theorem dX11_days_20 : decode cX11_days 20 = .ok (.iconst 0, 1) := qdE3 (by decide +kernel)
theorem dX11_days_21 : decode cX11_days 21 = .ok (.istore_n 2, 1) := qdE61 (by decide +kernel)
theorem dX11_days_22 : decode cX11_days 22 = .ok (.iload_n 2, 1) := qdE28 (by decide +kernel)
theorem dX11_days_23 : decode cX11_days 23 = .ok (.iload_n 1, 1) := qdE27 (by decide +kernel)
theorem dX11_days_24 : decode cX11_days 24 = .ok (.if_icmp .ge 27, 3) := qdE162 (by decide +kernel)
theorem dX11_days_27 : decode cX11_days 27 = .ok (.iload_n 2, 1) := qdE28 (by decide +kernel)
theorem dX11_days_28 : decode cX11_days 28 = .ok (.ifCond .eq 13, 3) := qdE153 (by decide +kernel)
theorem dX11_days_31 : decode cX11_days 31 = .ok (.aload_n 0, 1) := qdE42 (by decide +kernel)
theorem dX11_days_32 : decode cX11_days 32 = .ok (.getfield 136, 3) := qdE180 (by decide +kernel)
theorem dX11_days_35 : decode cX11_days 35 = .ok (.sipush 999, 3) := qdE17 (by decide +kernel)
theorem dX11_days_38 : decode cX11_days 38 = .ok (.if_icmp .ge 13, 3) := qdE162 (by decide +kernel)
theorem dX11_days_41 : decode cX11_days 41 = .ok (.aload_n 0, 1) := qdE42 (by decide +kernel)
theorem dX11_days_42 : decode cX11_days 42 = .ok (.invokevirtual 249, 3) := qdE182 (by decide +kernel)
theorem dX11_days_45 : decode cX11_days 45 = .ok (.iinc 2 1, 3) := qdE132 (by decide +kernel)
theorem dX11_days_48 : decode cX11_days 48 = .ok (.goto (-26), 3) := qdE167 (by decide +kernel)
theorem dX11_days_51 : decode cX11_days 51 = .ok (.aload_n 0, 1) := qdE42 (by decide +kernel)
theorem dX11_days_52 : decode cX11_days 52 = .ok (.getfield 136, 3) := qdE180 (by decide +kernel)
theorem dX11_days_55 : decode cX11_days 55 = .ok (.ireturn, 1) := qdE172 (by decide +kernel)
set_option maxRecDepth 20000 in
theorem ggX11_order_X11_orderAt : GoodIn wsX11_order wsX11_orderAt := goodIn_ca (goodIn_r _ [12, 13, 14, 15, 16, 17, 18, 11, 19, 42, 43, 44, 45, 46, 47, 48, 49, 50, 51, 52, 53, 54, 55, 56, 57] rfl (by decide +kernel)) (goodIn_sub (fun _ h => List.mem_cons_of_mem _ (List.mem_append_right _ h)) (by decide +kernel))
set_option maxRecDepth 20000 in
theorem glX11_order_0 : GoodIn wsX11_order (wsX11_order_r1) := goodIn_sub (fun _ h => List.mem_cons_of_mem _ (List.mem_append_left _ (List.mem_append_left _ (List.mem_append_left _ (List.mem_append_left _ (List.mem_append_left _ (List.mem_append_left _ (h)))))))) (by decide +kernel)
set_option maxRecDepth 20000 in
theorem gX11_order_X11_orderAt : GoodIn wsX11_order (wsV RX11 252 RX11 yX11_orderAt wsX11_orderAt) := goodIn_app (goodIn_c (glX11_order_0 _ (List.mem_of_getElem? (i := 7) rfl)) (goodIn_c (glX11_order_0 _ (List.mem_of_getElem? (i := 8) rfl)) (goodIn_c (glX11_order_0 _ (List.mem_of_getElem? (i := 9) rfl)) (goodIn_c (glX11_order_0 _ (List.mem_of_getElem? (i := 10) rfl)) (goodIn_n))))) ggX11_order_X11_orderAt
set_option maxRecDepth 20000 in
theorem glX11_order_1 : GoodIn wsX11_order (wsX11_order_r2) := goodIn_sub (fun _ h => List.mem_cons_of_mem _ (List.mem_append_left _ (List.mem_append_left _ (List.mem_append_left _ (List.mem_append_left _ (List.mem_append_left _ (List.mem_append_right _ (h)))))))) (by decide +kernel)
set_option maxRecDepth 20000 in
theorem glX11_order_2 : GoodIn wsX11_order (wsX30) := goodIn_sub (fun _ h => List.mem_cons_of_mem _ (List.mem_append_left _ (List.mem_append_left _ (List.mem_append_left _ (List.mem_append_left _ (List.mem_append_right _ (h))))))) ag_wsX30
set_option maxRecDepth 20000 in
theorem glX11_order_4 : GoodIn wsX11_order (wsX100) := goodIn_sub (fun _ h => List.mem_cons_of_mem _ (List.mem_append_left _ (List.mem_append_left _ (List.mem_append_right _ (h))))) ag_wsX100
set_option maxRecDepth 20000 in
theorem ggX11_order_X3_piecesLeft : GoodIn wsX11_order wsX3_piecesLeft := goodIn_c (glX11_order_0 _ (List.mem_of_getElem? (i := 23) rfl)) (goodIn_app (goodIn_app (goodIn_c (glX11_order_1 _ (List.mem_of_getElem? (i := 0) rfl)) (goodIn_c (glX11_order_1 _ (List.mem_of_getElem? (i := 1) rfl)) (goodIn_c (glX11_order_1 _ (List.mem_of_getElem? (i := 2) rfl)) (goodIn_c (glX11_order_1 _ (List.mem_of_getElem? (i := 3) rfl)) (goodIn_c (glX11_order_1 _ (List.mem_of_getElem? (i := 4) rfl)) (goodIn_c (glX11_order_1 _ (List.mem_of_getElem? (i := 5) rfl)) (goodIn_c (glX11_order_1 _ (List.mem_of_getElem? (i := 6) rfl)) (goodIn_c (glX11_order_1 _ (List.mem_of_getElem? (i := 7) rfl)) (goodIn_c (glX11_order_1 _ (List.mem_of_getElem? (i := 8) rfl)) (goodIn_c (glX11_order_1 _ (List.mem_of_getElem? (i := 9) rfl)) (goodIn_c (glX11_order_1 _ (List.mem_of_getElem? (i := 10) rfl)) (goodIn_n)))))))))))) (glX11_order_2)) (glX11_order_4))
set_option maxRecDepth 20000 in
theorem gX11_order_X3_piecesLeft : GoodIn wsX11_order (wsV RX11 264 RX3 yX3_piecesLeft wsX3_piecesLeft) := goodIn_app (goodIn_c (glX11_order_0 _ (List.mem_of_getElem? (i := 19) rfl)) (goodIn_c (glX11_order_0 _ (List.mem_of_getElem? (i := 20) rfl)) (goodIn_c (glX11_order_0 _ (List.mem_of_getElem? (i := 21) rfl)) (goodIn_c (glX11_order_0 _ (List.mem_of_getElem? (i := 22) rfl)) (goodIn_n))))) ggX11_order_X3_piecesLeft
theorem dX11_order_0 : decode cX11_order 0 = .ok (.aload_n 0, 1) := qdE42 (by decide +kernel)
theorem dX11_order_1 : decode cX11_order 1 = .ok (.iload_n 1, 1) := qdE27 (by decide +kernel)
theorem dX11_order_2 : decode cX11_order 2 = .ok (.invokevirtual 252, 3) := qdE182 (by decide +kernel)
theorem dX11_order_5 : decode cX11_order 5 = .ok (.astore_n 3, 1) := qdE78 (by decide +kernel)
theorem dX11_order_6 : decode cX11_order 6 = .ok (.iload_n 2, 1) := qdE28 (by decide +kernel)
theorem dX11_order_7 : decode cX11_order 7 = .ok (.tableswitch 67 0 5 #[37, 42, 47, 52, 57, 62], 37) := by decide +kernel
theorem dX11_order_44 : decode cX11_order 44 = .ok (.aload_n 3, 1) := qdE45 (by decide +kernel)
theorem dX11_order_45 : decode cX11_order 45 = .ok (.getfield 256, 3) := qdE180 (by decide +kernel)
theorem dX11_order_48 : decode cX11_order 48 = .ok (.ireturn, 1) := qdE172 (by decide +kernel)
theorem dX11_order_49 : decode cX11_order 49 = .ok (.aload_n 3, 1) := qdE45 (by decide +kernel)
theorem dX11_order_50 : decode cX11_order 50 = .ok (.getfield 259, 3) := qdE180 (by decide +kernel)
theorem dX11_order_53 : decode cX11_order 53 = .ok (.ireturn, 1) := qdE172 (by decide +kernel)
theorem dX11_order_54 : decode cX11_order 54 = .ok (.aload_n 3, 1) := qdE45 (by decide +kernel)
theorem dX11_order_55 : decode cX11_order 55 = .ok (.getfield 260, 3) := qdE180 (by decide +kernel)
theorem dX11_order_58 : decode cX11_order 58 = .ok (.ireturn, 1) := qdE172 (by decide +kernel)
theorem dX11_order_59 : decode cX11_order 59 = .ok (.aload_n 3, 1) := qdE45 (by decide +kernel)
theorem dX11_order_60 : decode cX11_order 60 = .ok (.getfield 261, 3) := qdE180 (by decide +kernel)
theorem dX11_order_63 : decode cX11_order 63 = .ok (.ireturn, 1) := qdE172 (by decide +kernel)
theorem dX11_order_64 : decode cX11_order 64 = .ok (.aload_n 3, 1) := qdE45 (by decide +kernel)
theorem dX11_order_65 : decode cX11_order 65 = .ok (.invokevirtual 264, 3) := qdE182 (by decide +kernel)
theorem dX11_order_68 : decode cX11_order 68 = .ok (.ireturn, 1) := qdE172 (by decide +kernel)
theorem dX11_order_69 : decode cX11_order 69 = .ok (.aload_n 3, 1) := qdE45 (by decide +kernel)
theorem dX11_order_70 : decode cX11_order 70 = .ok (.getfield 267, 3) := qdE180 (by decide +kernel)
theorem dX11_order_73 : decode cX11_order 73 = .ok (.ireturn, 1) := qdE172 (by decide +kernel)
theorem dX11_order_74 : decode cX11_order 74 = .ok (.new 169, 3) := qdE187 (by decide +kernel)
theorem dX11_order_77 : decode cX11_order 77 = .ok (.dup, 1) := qdE89 (by decide +kernel)
theorem dX11_order_78 : decode cX11_order 78 = .ok (.ldc_w 270, 3) := qdE19 (by decide +kernel)
theorem dX11_order_81 : decode cX11_order 81 = .ok (.invokespecial 173, 3) := qdE183 (by decide +kernel)
theorem dX11_order_84 : decode cX11_order 84 = .ok (.athrow, 1) := qdE191 (by decide +kernel)
set_option maxRecDepth 20000 in
theorem ggX11_want_X11_orderAt : GoodIn wsX11_want wsX11_orderAt := goodIn_ca (goodIn_r _ [18, 19, 20, 21, 22, 23, 24, 17, 25, 51, 52, 53, 54, 55, 56, 57, 58, 59, 60, 61, 62, 63, 64, 65, 66] rfl (by decide +kernel)) (goodIn_sub (fun _ h => List.mem_cons_of_mem _ (List.mem_append_right _ h)) (by decide +kernel))
set_option maxRecDepth 20000 in
theorem glX11_want_0 : GoodIn wsX11_want (wsX11_want_r1) := goodIn_sub (fun _ h => List.mem_cons_of_mem _ (List.mem_append_left _ (List.mem_append_left _ (List.mem_append_left _ (List.mem_append_left _ (List.mem_append_left _ (List.mem_append_left _ (List.mem_append_left _ (h))))))))) (by decide +kernel)
set_option maxRecDepth 20000 in
theorem gX11_want_X11_orderAt : GoodIn wsX11_want (wsV RX11 252 RX11 yX11_orderAt wsX11_orderAt) := goodIn_app (goodIn_c (glX11_want_0 _ (List.mem_of_getElem? (i := 13) rfl)) (goodIn_c (glX11_want_0 _ (List.mem_of_getElem? (i := 14) rfl)) (goodIn_c (glX11_want_0 _ (List.mem_of_getElem? (i := 15) rfl)) (goodIn_c (glX11_want_0 _ (List.mem_of_getElem? (i := 16) rfl)) (goodIn_n))))) ggX11_want_X11_orderAt
set_option maxRecDepth 20000 in
theorem ggX11_want_X11_wantAt : GoodIn wsX11_want wsX11_wantAt := goodIn_ca (goodIn_r _ [28, 19, 20, 29, 30, 23, 24, 17, 25, 67, 68, 69, 70, 71, 72] rfl (by decide +kernel)) (goodIn_sub (fun _ h => List.mem_cons_of_mem _ (List.mem_append_right _ h)) (by decide +kernel))
set_option maxRecDepth 20000 in
theorem glX11_want_1 : GoodIn wsX11_want (wsX11_want_r2) := goodIn_sub (fun _ h => List.mem_cons_of_mem _ (List.mem_append_left _ (List.mem_append_left _ (List.mem_append_left _ (List.mem_append_left _ (List.mem_append_left _ (List.mem_append_left _ (List.mem_append_right _ (h))))))))) (by decide +kernel)
set_option maxRecDepth 20000 in
theorem gX11_want_X11_wantAt : GoodIn wsX11_want (va_wsS RX11 272 yX11_wantAt wsX11_wantAt) := goodIn_app (goodIn_c (glX11_want_1 _ (List.mem_of_getElem? (i := 1) rfl)) (goodIn_c (glX11_want_1 _ (List.mem_of_getElem? (i := 2) rfl)) (goodIn_c (glX11_want_0 _ (List.mem_of_getElem? (i := 16) rfl)) (goodIn_n)))) ggX11_want_X11_wantAt
theorem dX11_want_0 : decode cX11_want 0 = .ok (.aload_n 0, 1) := qdE42 (by decide +kernel)
theorem dX11_want_1 : decode cX11_want 1 = .ok (.iload_n 1, 1) := qdE27 (by decide +kernel)
theorem dX11_want_2 : decode cX11_want 2 = .ok (.invokevirtual 252, 3) := qdE182 (by decide +kernel)
theorem dX11_want_5 : decode cX11_want 5 = .ok (.iload_n 2, 1) := qdE28 (by decide +kernel)
theorem dX11_want_6 : decode cX11_want 6 = .ok (.invokestatic 272, 3) := qdE184 (by decide +kernel)
theorem dX11_want_9 : decode cX11_want 9 = .ok (.astore 4, 2) := qdE58 (by decide +kernel)
theorem dX11_want_11 : decode cX11_want 11 = .ok (.iload_n 3, 1) := qdE29 (by decide +kernel)
theorem dX11_want_12 : decode cX11_want 12 = .ok (.tableswitch 130 0 8 #[52, 61, 67, 73, 79, 85, 91, 103, 109], 52) := by decide +kernel
theorem dX11_want_64 : decode cX11_want 64 = .ok (.aload 4, 2) := qdE25 (by decide +kernel)
theorem dX11_want_66 : decode cX11_want 66 = .ok (.getfield 276, 3) := qdE180 (by decide +kernel)
theorem dX11_want_69 : decode cX11_want 69 = .ok (.getfield 181, 3) := qdE180 (by decide +kernel)
theorem dX11_want_72 : decode cX11_want 72 = .ok (.ireturn, 1) := qdE172 (by decide +kernel)
theorem dX11_want_73 : decode cX11_want 73 = .ok (.aload 4, 2) := qdE25 (by decide +kernel)
theorem dX11_want_75 : decode cX11_want 75 = .ok (.getfield 282, 3) := qdE180 (by decide +kernel)
theorem dX11_want_78 : decode cX11_want 78 = .ok (.ireturn, 1) := qdE172 (by decide +kernel)
theorem dX11_want_79 : decode cX11_want 79 = .ok (.aload 4, 2) := qdE25 (by decide +kernel)
theorem dX11_want_81 : decode cX11_want 81 = .ok (.getfield 285, 3) := qdE180 (by decide +kernel)
theorem dX11_want_84 : decode cX11_want 84 = .ok (.ireturn, 1) := qdE172 (by decide +kernel)
theorem dX11_want_85 : decode cX11_want 85 = .ok (.aload 4, 2) := qdE25 (by decide +kernel)
theorem dX11_want_87 : decode cX11_want 87 = .ok (.getfield 288, 3) := qdE180 (by decide +kernel)
theorem dX11_want_90 : decode cX11_want 90 = .ok (.ireturn, 1) := qdE172 (by decide +kernel)
theorem dX11_want_91 : decode cX11_want 91 = .ok (.aload 4, 2) := qdE25 (by decide +kernel)
theorem dX11_want_93 : decode cX11_want 93 = .ok (.getfield 291, 3) := qdE180 (by decide +kernel)
theorem dX11_want_96 : decode cX11_want 96 = .ok (.ireturn, 1) := qdE172 (by decide +kernel)
theorem dX11_want_97 : decode cX11_want 97 = .ok (.aload 4, 2) := qdE25 (by decide +kernel)
theorem dX11_want_99 : decode cX11_want 99 = .ok (.getfield 294, 3) := qdE180 (by decide +kernel)
theorem dX11_want_102 : decode cX11_want 102 = .ok (.ireturn, 1) := qdE172 (by decide +kernel)
theorem dX11_want_103 : decode cX11_want 103 = .ok (.aload 4, 2) := qdE25 (by decide +kernel)
theorem dX11_want_105 : decode cX11_want 105 = .ok (.getfield 297, 3) := qdE180 (by decide +kernel)
theorem dX11_want_108 : decode cX11_want 108 = .ok (.aload 4, 2) := qdE25 (by decide +kernel)
theorem dX11_want_110 : decode cX11_want 110 = .ok (.getfield 300, 3) := qdE180 (by decide +kernel)
theorem dX11_want_113 : decode cX11_want 113 = .ok (.iadd, 1) := qdE96 (by decide +kernel)
theorem dX11_want_114 : decode cX11_want 114 = .ok (.ireturn, 1) := qdE172 (by decide +kernel)
theorem dX11_want_115 : decode cX11_want 115 = .ok (.aload 4, 2) := qdE25 (by decide +kernel)
theorem dX11_want_117 : decode cX11_want 117 = .ok (.getfield 303, 3) := qdE180 (by decide +kernel)
theorem dX11_want_120 : decode cX11_want 120 = .ok (.ireturn, 1) := qdE172 (by decide +kernel)
theorem dX11_want_121 : decode cX11_want 121 = .ok (.aload 4, 2) := qdE25 (by decide +kernel)
theorem dX11_want_123 : decode cX11_want 123 = .ok (.getfield 306, 3) := qdE180 (by decide +kernel)
theorem dX11_want_126 : decode cX11_want 126 = .ok (.ifnonnull 7, 3) := qdE199 (by decide +kernel)
theorem dX11_want_129 : decode cX11_want 129 = .ok (.iconst (-1), 1) := qdE2 (by decide +kernel)
theorem dX11_want_130 : decode cX11_want 130 = .ok (.goto 11, 3) := qdE167 (by decide +kernel)
theorem dX11_want_133 : decode cX11_want 133 = .ok (.aload 4, 2) := qdE25 (by decide +kernel)
theorem dX11_want_135 : decode cX11_want 135 = .ok (.getfield 306, 3) := qdE180 (by decide +kernel)
theorem dX11_want_138 : decode cX11_want 138 = .ok (.getfield 181, 3) := qdE180 (by decide +kernel)
theorem dX11_want_141 : decode cX11_want 141 = .ok (.ireturn, 1) := qdE172 (by decide +kernel)
theorem dX11_want_142 : decode cX11_want 142 = .ok (.new 169, 3) := qdE187 (by decide +kernel)
theorem dX11_want_145 : decode cX11_want 145 = .ok (.dup, 1) := qdE89 (by decide +kernel)
theorem dX11_want_146 : decode cX11_want 146 = .ok (.ldc_w 309, 3) := qdE19 (by decide +kernel)
theorem dX11_want_149 : decode cX11_want 149 = .ok (.invokespecial 173, 3) := qdE183 (by decide +kernel)
theorem dX11_want_152 : decode cX11_want 152 = .ok (.athrow, 1) := qdE191 (by decide +kernel)
set_option maxRecDepth 20000 in
theorem ggX11_back_X11_orderAt : GoodIn wsX11_back wsX11_orderAt := goodIn_ca (goodIn_r _ [13, 14, 15, 16, 17, 18, 19, 12, 20, 46, 47, 48, 49, 50, 51, 52, 53, 54, 55, 56, 57, 58, 59, 60, 61] rfl (by decide +kernel)) (goodIn_sub (fun _ h => List.mem_cons_of_mem _ (List.mem_append_right _ h)) (by decide +kernel))
set_option maxRecDepth 20000 in
theorem glX11_back_0 : GoodIn wsX11_back (wsX11_back_r1) := goodIn_sub (fun _ h => List.mem_cons_of_mem _ (List.mem_append_left _ (List.mem_append_left _ (List.mem_append_left _ (List.mem_append_left _ (List.mem_append_left _ (List.mem_append_left _ (List.mem_append_left _ (List.mem_append_left _ (h)))))))))) (by decide +kernel)
set_option maxRecDepth 20000 in
theorem gX11_back_X11_orderAt : GoodIn wsX11_back (wsV RX11 252 RX11 yX11_orderAt wsX11_orderAt) := goodIn_app (goodIn_c (glX11_back_0 _ (List.mem_of_getElem? (i := 8) rfl)) (goodIn_c (glX11_back_0 _ (List.mem_of_getElem? (i := 9) rfl)) (goodIn_c (glX11_back_0 _ (List.mem_of_getElem? (i := 10) rfl)) (goodIn_c (glX11_back_0 _ (List.mem_of_getElem? (i := 11) rfl)) (goodIn_n))))) ggX11_back_X11_orderAt
set_option maxRecDepth 20000 in
theorem ggX11_back_X11_wantAt : GoodIn wsX11_back wsX11_wantAt := goodIn_ca (goodIn_r _ [23, 14, 15, 24, 25, 18, 19, 12, 20, 74, 75, 76, 77, 78, 79] rfl (by decide +kernel)) (goodIn_sub (fun _ h => List.mem_cons_of_mem _ (List.mem_append_right _ h)) (by decide +kernel))
set_option maxRecDepth 20000 in
theorem gX11_back_X11_wantAt : GoodIn wsX11_back (va_wsS RX11 272 yX11_wantAt wsX11_wantAt) := goodIn_app (goodIn_c (glX11_back_0 _ (List.mem_of_getElem? (i := 20) rfl)) (goodIn_c (glX11_back_0 _ (List.mem_of_getElem? (i := 21) rfl)) (goodIn_c (glX11_back_0 _ (List.mem_of_getElem? (i := 11) rfl)) (goodIn_n)))) ggX11_back_X11_wantAt
set_option maxRecDepth 20000 in
theorem ggX11_back_X11_within : GoodIn wsX11_back wsX11_within := goodIn_c (glX11_back_0 _ (List.mem_of_getElem? (i := 19) rfl)) (goodIn_n)
set_option maxRecDepth 20000 in
theorem gX11_back_X11_within : GoodIn wsX11_back (va_wsS RX11 87 yX11_within wsX11_within) := goodIn_app (goodIn_c (glX11_back_0 _ (List.mem_of_getElem? (i := 17) rfl)) (goodIn_c (glX11_back_0 _ (List.mem_of_getElem? (i := 18) rfl)) (goodIn_c (glX11_back_0 _ (List.mem_of_getElem? (i := 11) rfl)) (goodIn_n)))) ggX11_back_X11_within
set_option maxRecDepth 20000 in
theorem glX11_back_1 : GoodIn wsX11_back (wsX11_back_r2) := goodIn_sub (fun _ h => List.mem_cons_of_mem _ (List.mem_append_left _ (List.mem_append_left _ (List.mem_append_left _ (List.mem_append_left _ (List.mem_append_left _ (List.mem_append_left _ (List.mem_append_left _ (List.mem_append_right _ (h)))))))))) (by decide +kernel)
set_option maxRecDepth 20000 in
theorem glX11_back_3 : GoodIn wsX11_back (wsX100) := goodIn_sub (fun _ h => List.mem_cons_of_mem _ (List.mem_append_left _ (List.mem_append_left _ (List.mem_append_left _ (List.mem_append_left _ (List.mem_append_left _ (List.mem_append_right _ (h)))))))) ag_wsX100
set_option maxRecDepth 20000 in
theorem ggX11_back_X10_piecesOut : GoodIn wsX11_back wsX10_piecesOut := goodIn_c (glX11_back_1 _ (List.mem_of_getElem? (i := 5) rfl)) (goodIn_app (goodIn_c (glX11_back_1 _ (List.mem_of_getElem? (i := 6) rfl)) (goodIn_c (glX11_back_1 _ (List.mem_of_getElem? (i := 7) rfl)) (goodIn_c (glX11_back_1 _ (List.mem_of_getElem? (i := 8) rfl)) (goodIn_c (glX11_back_1 _ (List.mem_of_getElem? (i := 9) rfl)) (goodIn_n))))) (glX11_back_3))
set_option maxRecDepth 20000 in
theorem gX11_back_X10_piecesOut : GoodIn wsX11_back (wsV RX11 313 RX10 yX10_piecesOut wsX10_piecesOut) := goodIn_app (goodIn_c (glX11_back_1 _ (List.mem_of_getElem? (i := 1) rfl)) (goodIn_c (glX11_back_1 _ (List.mem_of_getElem? (i := 2) rfl)) (goodIn_c (glX11_back_1 _ (List.mem_of_getElem? (i := 3) rfl)) (goodIn_c (glX11_back_1 _ (List.mem_of_getElem? (i := 4) rfl)) (goodIn_n))))) ggX11_back_X10_piecesOut
set_option maxRecDepth 20000 in
theorem glX11_back_6 : GoodIn wsX11_back (wsX80) := goodIn_sub (fun _ h => List.mem_cons_of_mem _ (List.mem_append_left _ (List.mem_append_left _ (List.mem_append_right _ (h))))) ag_wsX80
set_option maxRecDepth 20000 in
theorem ggX11_back_X10_takeBack : GoodIn wsX11_back wsX10_takeBack := goodIn_c (glX11_back_1 _ (List.mem_of_getElem? (i := 13) rfl)) (goodIn_app (goodIn_app (goodIn_c (glX11_back_1 _ (List.mem_of_getElem? (i := 7) rfl)) (goodIn_c (glX11_back_1 _ (List.mem_of_getElem? (i := 9) rfl)) (goodIn_c (glX11_back_1 _ (List.mem_of_getElem? (i := 14) rfl)) (goodIn_c (glX11_back_1 _ (List.mem_of_getElem? (i := 15) rfl)) (goodIn_c (glX11_back_1 _ (List.mem_of_getElem? (i := 16) rfl)) (goodIn_c (glX11_back_1 _ (List.mem_of_getElem? (i := 17) rfl)) (goodIn_c (glX11_back_1 _ (List.mem_of_getElem? (i := 18) rfl)) (goodIn_c (glX11_back_1 _ (List.mem_of_getElem? (i := 19) rfl)) (goodIn_c (glX11_back_1 _ (List.mem_of_getElem? (i := 20) rfl)) (goodIn_c (glX11_back_1 _ (List.mem_of_getElem? (i := 8) rfl)) (goodIn_n))))))))))) (glX11_back_3)) (glX11_back_6))
set_option maxRecDepth 20000 in
theorem gX11_back_X10_takeBack : GoodIn wsX11_back (wsV RX11 316 RX10 yX10_takeBack wsX10_takeBack) := goodIn_app (goodIn_c (glX11_back_1 _ (List.mem_of_getElem? (i := 10) rfl)) (goodIn_c (glX11_back_1 _ (List.mem_of_getElem? (i := 11) rfl)) (goodIn_c (glX11_back_1 _ (List.mem_of_getElem? (i := 12) rfl)) (goodIn_c (glX11_back_1 _ (List.mem_of_getElem? (i := 4) rfl)) (goodIn_n))))) ggX11_back_X10_takeBack
theorem dX11_back_0 : decode cX11_back 0 = .ok (.aload_n 0, 1) := qdE42 (by decide +kernel)
theorem dX11_back_1 : decode cX11_back 1 = .ok (.iload_n 1, 1) := qdE27 (by decide +kernel)
theorem dX11_back_2 : decode cX11_back 2 = .ok (.invokevirtual 252, 3) := qdE182 (by decide +kernel)
theorem dX11_back_5 : decode cX11_back 5 = .ok (.astore 4, 2) := qdE58 (by decide +kernel)
theorem dX11_back_7 : decode cX11_back 7 = .ok (.aload 4, 2) := qdE25 (by decide +kernel)
theorem dX11_back_9 : decode cX11_back 9 = .ok (.iload_n 2, 1) := qdE28 (by decide +kernel)
theorem dX11_back_10 : decode cX11_back 10 = .ok (.invokestatic 272, 3) := qdE184 (by decide +kernel)
theorem dX11_back_13 : decode cX11_back 13 = .ok (.astore 5, 2) := qdE58 (by decide +kernel)
theorem dX11_back_15 : decode cX11_back 15 = .ok (.iload_n 3, 1) := qdE29 (by decide +kernel)
theorem dX11_back_16 : decode cX11_back 16 = .ok (.iconst 1, 1) := qdE4 (by decide +kernel)
theorem dX11_back_17 : decode cX11_back 17 = .ok (.bipush 99, 2) := qdE16 (by decide +kernel)
theorem dX11_back_19 : decode cX11_back 19 = .ok (.invokestatic 87, 3) := qdE184 (by decide +kernel)
theorem dX11_back_22 : decode cX11_back 22 = .ok (.ifCond .ne 14, 3) := qdE154 (by decide +kernel)
theorem dX11_back_25 : decode cX11_back 25 = .ok (.new 91, 3) := qdE187 (by decide +kernel)
theorem dX11_back_28 : decode cX11_back 28 = .ok (.dup, 1) := qdE89 (by decide +kernel)
theorem dX11_back_29 : decode cX11_back 29 = .ok (.ldc_w 311, 3) := qdE19 (by decide +kernel)
theorem dX11_back_32 : decode cX11_back 32 = .ok (.invokespecial 95, 3) := qdE183 (by decide +kernel)
theorem dX11_back_35 : decode cX11_back 35 = .ok (.athrow, 1) := qdE191 (by decide +kernel)
theorem dX11_back_36 : decode cX11_back 36 = .ok (.iload_n 3, 1) := qdE29 (by decide +kernel)
theorem dX11_back_37 : decode cX11_back 37 = .ok (.aload 5, 2) := qdE25 (by decide +kernel)
theorem dX11_back_39 : decode cX11_back 39 = .ok (.invokevirtual 313, 3) := qdE182 (by decide +kernel)
theorem dX11_back_42 : decode cX11_back 42 = .ok (.if_icmp .gt 25, 3) := qdE163 (by decide +kernel)
theorem dX11_back_45 : decode cX11_back 45 = .ok (.aload_n 0, 1) := qdE42 (by decide +kernel)
theorem dX11_back_46 : decode cX11_back 46 = .ok (.getfield 136, 3) := qdE180 (by decide +kernel)
theorem dX11_back_49 : decode cX11_back 49 = .ok (.aload 5, 2) := qdE25 (by decide +kernel)
theorem dX11_back_51 : decode cX11_back 51 = .ok (.getfield 303, 3) := qdE180 (by decide +kernel)
theorem dX11_back_54 : decode cX11_back 54 = .ok (.isub, 1) := qdE100 (by decide +kernel)
theorem dX11_back_55 : decode cX11_back 55 = .ok (.aload_n 0, 1) := qdE42 (by decide +kernel)
theorem dX11_back_56 : decode cX11_back 56 = .ok (.getfield 33, 3) := qdE180 (by decide +kernel)
theorem dX11_back_59 : decode cX11_back 59 = .ok (.getfield 174, 3) := qdE180 (by decide +kernel)
theorem dX11_back_62 : decode cX11_back 62 = .ok (.iconst 3, 1) := qdE6 (by decide +kernel)
theorem dX11_back_63 : decode cX11_back 63 = .ok (.iaload, 1) := qdE46 (by decide +kernel)
theorem dX11_back_64 : decode cX11_back 64 = .ok (.if_icmp .le 5, 3) := qdE164 (by decide +kernel)
theorem dX11_back_67 : decode cX11_back 67 = .ok (.iconst 0, 1) := qdE3 (by decide +kernel)
theorem dX11_back_68 : decode cX11_back 68 = .ok (.ireturn, 1) := qdE172 (by decide +kernel)
theorem dX11_back_69 : decode cX11_back 69 = .ok (.aload 5, 2) := qdE25 (by decide +kernel)
theorem dX11_back_71 : decode cX11_back 71 = .ok (.iload_n 3, 1) := qdE29 (by decide +kernel)
theorem dX11_back_72 : decode cX11_back 72 = .ok (.invokevirtual 316, 3) := qdE182 (by decide +kernel)
theorem dX11_back_75 : decode cX11_back 75 = .ok (.aload 4, 2) := qdE25 (by decide +kernel)
theorem dX11_back_77 : decode cX11_back 77 = .ok (.dup, 1) := qdE89 (by decide +kernel)
theorem dX11_back_78 : decode cX11_back 78 = .ok (.getfield 261, 3) := qdE180 (by decide +kernel)
theorem dX11_back_81 : decode cX11_back 81 = .ok (.iload_n 3, 1) := qdE29 (by decide +kernel)
theorem dX11_back_82 : decode cX11_back 82 = .ok (.aload 5, 2) := qdE25 (by decide +kernel)
theorem dX11_back_84 : decode cX11_back 84 = .ok (.getfield 285, 3) := qdE180 (by decide +kernel)
theorem dX11_back_87 : decode cX11_back 87 = .ok (.imul, 1) := qdE104 (by decide +kernel)
theorem dX11_back_88 : decode cX11_back 88 = .ok (.iadd, 1) := qdE96 (by decide +kernel)
theorem dX11_back_89 : decode cX11_back 89 = .ok (.putfield 261, 3) := qdE181 (by decide +kernel)
theorem dX11_back_92 : decode cX11_back 92 = .ok (.iconst 1, 1) := qdE4 (by decide +kernel)
theorem dX11_back_93 : decode cX11_back 93 = .ok (.ireturn, 1) := qdE172 (by decide +kernel)
set_option maxRecDepth 20000 in
theorem glX11_sending_0 : GoodIn wsX11_sending ([Cond.classLink RX11 322 "java/lang/IndexOutOfBoundsException", Cond.initialized "java/lang/IndexOutOfBoundsException", Cond.classLink RX11 169 "java/util/NoSuchElementException", Cond.initialized "java/util/NoSuchElementException", Cond.fieldLink RX11 319 "PostHouse" "sendingCount" "I", Cond.fieldLink RX11 54 "PostHouse" "sendings" "[LPostHouse$Sending;", Cond.fieldLink RX11 327 "PostHouse$Sending" "order" "I", Cond.fieldLink RX11 330 "PostHouse$Sending" "day" "I", Cond.fieldLink RX11 331 "PostHouse$Sending" "pieces" "I", Cond.fieldLink RX11 334 "PostHouse$Sending" "parcels" "I", Cond.methodLink RX11 87 yX11_within, Cond.static yX11_within, Cond.initialized RX11, Cond.code yX11_within cX11_within 3 (some .boolean)]) := goodIn_sub (fun _ h => List.mem_cons_of_mem _ (List.mem_append_left _ (List.mem_append_left _ (List.mem_append_left _ (List.mem_append_left _ (h)))))) (by decide +kernel)
set_option maxRecDepth 20000 in
theorem ggX11_sending_X11_within : GoodIn wsX11_sending wsX11_within := goodIn_c (glX11_sending_0 _ (List.mem_of_getElem? (i := 13) rfl)) (goodIn_n)
set_option maxRecDepth 20000 in
theorem gX11_sending_X11_within : GoodIn wsX11_sending (va_wsS RX11 87 yX11_within wsX11_within) := goodIn_app (goodIn_c (glX11_sending_0 _ (List.mem_of_getElem? (i := 10) rfl)) (goodIn_c (glX11_sending_0 _ (List.mem_of_getElem? (i := 11) rfl)) (goodIn_c (glX11_sending_0 _ (List.mem_of_getElem? (i := 12) rfl)) (goodIn_n)))) ggX11_sending_X11_within
theorem dX11_sending_0 : decode cX11_sending 0 = .ok (.iload_n 1, 1) := qdE27 (by decide +kernel)
theorem dX11_sending_1 : decode cX11_sending 1 = .ok (.iconst 0, 1) := qdE3 (by decide +kernel)
theorem dX11_sending_2 : decode cX11_sending 2 = .ok (.aload_n 0, 1) := qdE42 (by decide +kernel)
theorem dX11_sending_3 : decode cX11_sending 3 = .ok (.getfield 319, 3) := qdE180 (by decide +kernel)
theorem dX11_sending_6 : decode cX11_sending 6 = .ok (.iconst 1, 1) := qdE4 (by decide +kernel)
theorem dX11_sending_7 : decode cX11_sending 7 = .ok (.isub, 1) := qdE100 (by decide +kernel)
theorem dX11_sending_8 : decode cX11_sending 8 = .ok (.invokestatic 87, 3) := qdE184 (by decide +kernel)
theorem dX11_sending_11 : decode cX11_sending 11 = .ok (.ifCond .ne 14, 3) := qdE154 (by decide +kernel)
theorem dX11_sending_14 : decode cX11_sending 14 = .ok (.new 322, 3) := qdE187 (by decide +kernel)
theorem dX11_sending_17 : decode cX11_sending 17 = .ok (.dup, 1) := qdE89 (by decide +kernel)
theorem dX11_sending_18 : decode cX11_sending 18 = .ok (.ldc_w 324, 3) := qdE19 (by decide +kernel)
theorem dX11_sending_21 : decode cX11_sending 21 = .ok (.invokespecial 326, 3) := qdE183 (by decide +kernel)
theorem dX11_sending_24 : decode cX11_sending 24 = .ok (.athrow, 1) := qdE191 (by decide +kernel)
theorem dX11_sending_25 : decode cX11_sending 25 = .ok (.aload_n 0, 1) := qdE42 (by decide +kernel)
theorem dX11_sending_26 : decode cX11_sending 26 = .ok (.getfield 54, 3) := qdE180 (by decide +kernel)
theorem dX11_sending_29 : decode cX11_sending 29 = .ok (.iload_n 1, 1) := qdE27 (by decide +kernel)
theorem dX11_sending_30 : decode cX11_sending 30 = .ok (.aaload, 1) := qdE50 (by decide +kernel)
theorem dX11_sending_31 : decode cX11_sending 31 = .ok (.astore_n 3, 1) := qdE78 (by decide +kernel)
theorem dX11_sending_32 : decode cX11_sending 32 = .ok (.iload_n 2, 1) := qdE28 (by decide +kernel)
theorem dX11_sending_33 : decode cX11_sending 33 = .ok (.tableswitch 51 0 3 #[31, 36, 41, 46], 31) := by decide +kernel
theorem dX11_sending_64 : decode cX11_sending 64 = .ok (.aload_n 3, 1) := qdE45 (by decide +kernel)
theorem dX11_sending_65 : decode cX11_sending 65 = .ok (.getfield 327, 3) := qdE180 (by decide +kernel)
theorem dX11_sending_68 : decode cX11_sending 68 = .ok (.ireturn, 1) := qdE172 (by decide +kernel)
theorem dX11_sending_69 : decode cX11_sending 69 = .ok (.aload_n 3, 1) := qdE45 (by decide +kernel)
theorem dX11_sending_70 : decode cX11_sending 70 = .ok (.getfield 330, 3) := qdE180 (by decide +kernel)
theorem dX11_sending_73 : decode cX11_sending 73 = .ok (.ireturn, 1) := qdE172 (by decide +kernel)
theorem dX11_sending_74 : decode cX11_sending 74 = .ok (.aload_n 3, 1) := qdE45 (by decide +kernel)
theorem dX11_sending_75 : decode cX11_sending 75 = .ok (.getfield 331, 3) := qdE180 (by decide +kernel)
theorem dX11_sending_78 : decode cX11_sending 78 = .ok (.ireturn, 1) := qdE172 (by decide +kernel)
theorem dX11_sending_79 : decode cX11_sending 79 = .ok (.aload_n 3, 1) := qdE45 (by decide +kernel)
theorem dX11_sending_80 : decode cX11_sending 80 = .ok (.getfield 334, 3) := qdE180 (by decide +kernel)
theorem dX11_sending_83 : decode cX11_sending 83 = .ok (.ireturn, 1) := qdE172 (by decide +kernel)
theorem dX11_sending_84 : decode cX11_sending 84 = .ok (.new 169, 3) := qdE187 (by decide +kernel)
theorem dX11_sending_87 : decode cX11_sending 87 = .ok (.dup, 1) := qdE89 (by decide +kernel)
theorem dX11_sending_88 : decode cX11_sending 88 = .ok (.ldc_w 337, 3) := qdE19 (by decide +kernel)
theorem dX11_sending_91 : decode cX11_sending 91 = .ok (.invokespecial 173, 3) := qdE183 (by decide +kernel)
theorem dX11_sending_94 : decode cX11_sending 94 = .ok (.athrow, 1) := qdE191 (by decide +kernel)
set_option maxRecDepth 20000 in
theorem ggX11_pick_X11_thingAt : GoodIn wsX11_pick wsX11_thingAt := goodIn_ca (goodIn_r _ [6, 7, 8, 9, 10, 11, 12, 13, 14, 15, 16, 17, 5, 18, 26, 27, 28, 29, 30, 31, 32, 33, 34, 35, 36, 37, 38, 39, 40, 41, 42, 43] rfl (by decide +kernel)) (goodIn_sub (fun _ h => List.mem_cons_of_mem _ (List.mem_append_right _ h)) (by decide +kernel))
set_option maxRecDepth 20000 in
theorem glX11_pick_0 : GoodIn wsX11_pick (wsX11_pick_r1) := goodIn_sub (fun _ h => List.mem_cons_of_mem _ (List.mem_append_left _ (List.mem_append_left _ (List.mem_append_left _ (List.mem_append_left _ (List.mem_append_left _ (h))))))) (by decide +kernel)
set_option maxRecDepth 20000 in
theorem gX11_pick_X11_thingAt : GoodIn wsX11_pick (wsV RX11 116 RX11 yX11_thingAt wsX11_thingAt) := goodIn_app (goodIn_c (glX11_pick_0 _ (List.mem_of_getElem? (i := 1) rfl)) (goodIn_c (glX11_pick_0 _ (List.mem_of_getElem? (i := 2) rfl)) (goodIn_c (glX11_pick_0 _ (List.mem_of_getElem? (i := 3) rfl)) (goodIn_c (glX11_pick_0 _ (List.mem_of_getElem? (i := 4) rfl)) (goodIn_n))))) ggX11_pick_X11_thingAt
set_option maxRecDepth 20000 in
theorem glX11_pick_1 : GoodIn wsX11_pick (wsX11_pick_r2) := goodIn_sub (fun _ h => List.mem_cons_of_mem _ (List.mem_append_left _ (List.mem_append_left _ (List.mem_append_left _ (List.mem_append_left _ (List.mem_append_right _ (h))))))) (by decide +kernel)
set_option maxRecDepth 20000 in
theorem glX11_pick_4 : GoodIn wsX11_pick (wsX90) := goodIn_sub (fun _ h => List.mem_cons_of_mem _ (List.mem_append_left _ (List.mem_append_right _ (h)))) ag_wsX90
set_option maxRecDepth 20000 in
theorem ggX11_pick_X9_add : GoodIn wsX11_pick wsX9_add := goodIn_c (glX11_pick_0 _ (List.mem_of_getElem? (i := 22) rfl)) (goodIn_app (goodIn_c (glX11_pick_0 _ (List.mem_of_getElem? (i := 23) rfl)) (goodIn_c (glX11_pick_1 _ (List.mem_of_getElem? (i := 0) rfl)) (goodIn_n))) (glX11_pick_4))
set_option maxRecDepth 20000 in
theorem gX11_pick_X9_add : GoodIn wsX11_pick (wsV RX11 339 RX9 yX9_add wsX9_add) := goodIn_app (goodIn_c (glX11_pick_0 _ (List.mem_of_getElem? (i := 18) rfl)) (goodIn_c (glX11_pick_0 _ (List.mem_of_getElem? (i := 19) rfl)) (goodIn_c (glX11_pick_0 _ (List.mem_of_getElem? (i := 20) rfl)) (goodIn_c (glX11_pick_0 _ (List.mem_of_getElem? (i := 21) rfl)) (goodIn_n))))) ggX11_pick_X9_add
theorem dX11_pick_0 : decode cX11_pick 0 = .ok (.aload_n 0, 1) := qdE42 (by decide +kernel)
theorem dX11_pick_1 : decode cX11_pick 1 = .ok (.getfield 68, 3) := qdE180 (by decide +kernel)
theorem dX11_pick_4 : decode cX11_pick 4 = .ok (.aload_n 0, 1) := qdE42 (by decide +kernel)
theorem dX11_pick_5 : decode cX11_pick 5 = .ok (.iload_n 1, 1) := qdE27 (by decide +kernel)
theorem dX11_pick_6 : decode cX11_pick 6 = .ok (.invokevirtual 116, 3) := qdE182 (by decide +kernel)
theorem dX11_pick_9 : decode cX11_pick 9 = .ok (.invokevirtual 339, 3) := qdE182 (by decide +kernel)
theorem dX11_pick_12 : decode cX11_pick 12 = .ok (.ireturn, 1) := qdE172 (by decide +kernel)
set_option maxRecDepth 20000 in
theorem glX11_walk_0 : GoodIn wsX11_walk (wsX11_walk_r1) := goodIn_sub (fun _ h => List.mem_cons_of_mem _ (List.mem_append_left _ (List.mem_append_left _ (List.mem_append_left _ (List.mem_append_left _ (h)))))) (by decide +kernel)
set_option maxRecDepth 20000 in
theorem glX11_walk_1 : GoodIn wsX11_walk (wsX11_walk_r2) := goodIn_sub (fun _ h => List.mem_cons_of_mem _ (List.mem_append_left _ (List.mem_append_left _ (List.mem_append_left _ (List.mem_append_right _ (List.mem_append_left _ (h))))))) (by decide +kernel)
set_option maxRecDepth 20000 in
theorem glX11_walk_2 : GoodIn wsX11_walk (wsX11_walk_r3) := goodIn_sub (fun _ h => List.mem_cons_of_mem _ (List.mem_append_left _ (List.mem_append_left _ (List.mem_append_left _ (List.mem_append_right _ (List.mem_append_right _ (h))))))) (by decide +kernel)
set_option maxRecDepth 20000 in
theorem glX11_walk_4 : GoodIn wsX11_walk (wsX90) := goodIn_sub (fun _ h => List.mem_cons_of_mem _ (List.mem_append_left _ (List.mem_append_right _ (h)))) ag_wsX90
set_option maxRecDepth 20000 in
theorem glX11_walk_5 : GoodIn wsX11_walk (wsX80) := goodIn_sub (fun _ h => List.mem_cons_of_mem _ (List.mem_append_right _ (h))) ag_wsX80
set_option maxRecDepth 20000 in
theorem ggX11_walk_X9_leastSteps : GoodIn wsX11_walk wsX9_leastSteps := goodIn_c (glX11_walk_0 _ (List.mem_of_getElem? (i := 6) rfl)) (goodIn_app (goodIn_app (goodIn_app (goodIn_c (glX11_walk_0 _ (List.mem_of_getElem? (i := 7) rfl)) (goodIn_c (glX11_walk_0 _ (List.mem_of_getElem? (i := 8) rfl)) (goodIn_c (glX11_walk_0 _ (List.mem_of_getElem? (i := 9) rfl)) (goodIn_c (glX11_walk_0 _ (List.mem_of_getElem? (i := 10) rfl)) (goodIn_c (glX11_walk_0 _ (List.mem_of_getElem? (i := 11) rfl)) (goodIn_c (glX11_walk_0 _ (List.mem_of_getElem? (i := 12) rfl)) (goodIn_c (glX11_walk_0 _ (List.mem_of_getElem? (i := 5) rfl)) (goodIn_c (glX11_walk_0 _ (List.mem_of_getElem? (i := 13) rfl)) (goodIn_c (glX11_walk_0 _ (List.mem_of_getElem? (i := 14) rfl)) (goodIn_c (glX11_walk_0 _ (List.mem_of_getElem? (i := 15) rfl)) (goodIn_c (glX11_walk_0 _ (List.mem_of_getElem? (i := 16) rfl)) (goodIn_c (glX11_walk_0 _ (List.mem_of_getElem? (i := 17) rfl)) (goodIn_c (glX11_walk_0 _ (List.mem_of_getElem? (i := 18) rfl)) (goodIn_c (glX11_walk_0 _ (List.mem_of_getElem? (i := 19) rfl)) (goodIn_c (glX11_walk_0 _ (List.mem_of_getElem? (i := 20) rfl)) (goodIn_c (glX11_walk_0 _ (List.mem_of_getElem? (i := 21) rfl)) (goodIn_c (glX11_walk_0 _ (List.mem_of_getElem? (i := 22) rfl)) (goodIn_c (glX11_walk_0 _ (List.mem_of_getElem? (i := 23) rfl)) (goodIn_c (glX11_walk_1 _ (List.mem_of_getElem? (i := 0) rfl)) (goodIn_c (glX11_walk_1 _ (List.mem_of_getElem? (i := 1) rfl)) (goodIn_c (glX11_walk_1 _ (List.mem_of_getElem? (i := 2) rfl)) (goodIn_c (glX11_walk_1 _ (List.mem_of_getElem? (i := 3) rfl)) (goodIn_c (glX11_walk_1 _ (List.mem_of_getElem? (i := 4) rfl)) (goodIn_c (glX11_walk_1 _ (List.mem_of_getElem? (i := 5) rfl)) (goodIn_n))))))))))))))))))))))))) (goodIn_c (glX11_walk_1 _ (List.mem_of_getElem? (i := 6) rfl)) (goodIn_c (glX11_walk_1 _ (List.mem_of_getElem? (i := 7) rfl)) (goodIn_c (glX11_walk_1 _ (List.mem_of_getElem? (i := 8) rfl)) (goodIn_c (glX11_walk_1 _ (List.mem_of_getElem? (i := 9) rfl)) (goodIn_c (glX11_walk_1 _ (List.mem_of_getElem? (i := 10) rfl)) (goodIn_c (glX11_walk_1 _ (List.mem_of_getElem? (i := 11) rfl)) (goodIn_c (glX11_walk_1 _ (List.mem_of_getElem? (i := 12) rfl)) (goodIn_c (glX11_walk_1 _ (List.mem_of_getElem? (i := 13) rfl)) (goodIn_c (glX11_walk_1 _ (List.mem_of_getElem? (i := 14) rfl)) (goodIn_c (glX11_walk_1 _ (List.mem_of_getElem? (i := 15) rfl)) (goodIn_c (glX11_walk_1 _ (List.mem_of_getElem? (i := 16) rfl)) (goodIn_c (glX11_walk_1 _ (List.mem_of_getElem? (i := 17) rfl)) (goodIn_c (glX11_walk_1 _ (List.mem_of_getElem? (i := 18) rfl)) (goodIn_c (glX11_walk_1 _ (List.mem_of_getElem? (i := 19) rfl)) (goodIn_c (glX11_walk_1 _ (List.mem_of_getElem? (i := 20) rfl)) (goodIn_c (glX11_walk_1 _ (List.mem_of_getElem? (i := 21) rfl)) (goodIn_c (glX11_walk_1 _ (List.mem_of_getElem? (i := 22) rfl)) (goodIn_c (glX11_walk_1 _ (List.mem_of_getElem? (i := 23) rfl)) (goodIn_c (glX11_walk_2 _ (List.mem_of_getElem? (i := 0) rfl)) (goodIn_c (glX11_walk_2 _ (List.mem_of_getElem? (i := 1) rfl)) (goodIn_c (glX11_walk_2 _ (List.mem_of_getElem? (i := 2) rfl)) (goodIn_c (glX11_walk_2 _ (List.mem_of_getElem? (i := 3) rfl)) (goodIn_c (glX11_walk_2 _ (List.mem_of_getElem? (i := 4) rfl)) (goodIn_n))))))))))))))))))))))))) (glX11_walk_4)) (glX11_walk_5))
set_option maxRecDepth 20000 in
theorem gX11_walk_X9_leastSteps : GoodIn wsX11_walk (wsV RX11 342 RX9 yX9_leastSteps wsX9_leastSteps) := goodIn_app (goodIn_c (glX11_walk_0 _ (List.mem_of_getElem? (i := 2) rfl)) (goodIn_c (glX11_walk_0 _ (List.mem_of_getElem? (i := 3) rfl)) (goodIn_c (glX11_walk_0 _ (List.mem_of_getElem? (i := 4) rfl)) (goodIn_c (glX11_walk_0 _ (List.mem_of_getElem? (i := 5) rfl)) (goodIn_n))))) ggX11_walk_X9_leastSteps
theorem dX11_walk_0 : decode cX11_walk 0 = .ok (.aload_n 0, 1) := qdE42 (by decide +kernel)
theorem dX11_walk_1 : decode cX11_walk 1 = .ok (.getfield 68, 3) := qdE180 (by decide +kernel)
theorem dX11_walk_4 : decode cX11_walk 4 = .ok (.invokevirtual 342, 3) := qdE182 (by decide +kernel)
theorem dX11_walk_7 : decode cX11_walk 7 = .ok (.istore_n 1, 1) := qdE60 (by decide +kernel)
theorem dX11_walk_8 : decode cX11_walk 8 = .ok (.aload_n 0, 1) := qdE42 (by decide +kernel)
theorem dX11_walk_9 : decode cX11_walk 9 = .ok (.getfield 68, 3) := qdE180 (by decide +kernel)
theorem dX11_walk_12 : decode cX11_walk 12 = .ok (.iconst 0, 1) := qdE3 (by decide +kernel)
theorem dX11_walk_13 : decode cX11_walk 13 = .ok (.putfield 345, 3) := qdE181 (by decide +kernel)
theorem dX11_walk_16 : decode cX11_walk 16 = .ok (.iload_n 1, 1) := qdE27 (by decide +kernel)
theorem dX11_walk_17 : decode cX11_walk 17 = .ok (.ireturn, 1) := qdE172 (by decide +kernel)
set_option maxRecDepth 20000 in
theorem ggX11_foretold_X11_thingAt : GoodIn wsX11_foretold wsX11_thingAt := goodIn_ca (goodIn_r _ [15, 16, 17, 18, 19, 20, 21, 22, 23, 24, 25, 26, 14, 27, 66, 67, 68, 69, 70, 71, 72, 73, 74, 75, 76, 77, 78, 79, 80, 81, 82, 83] rfl (by decide +kernel)) (goodIn_sub (fun _ h => List.mem_cons_of_mem _ (List.mem_append_right _ h)) (by decide +kernel))
set_option maxRecDepth 20000 in
theorem glX11_foretold_0 : GoodIn wsX11_foretold (wsX11_foretold_r1) := goodIn_sub (fun _ h => List.mem_cons_of_mem _ (List.mem_append_left _ (List.mem_append_left _ (List.mem_append_left _ (List.mem_append_left _ (List.mem_append_left _ (List.mem_append_left _ (List.mem_append_left _ (List.mem_append_left _ (List.mem_append_left _ (List.mem_append_left _ (h)))))))))))) (by decide +kernel)
set_option maxRecDepth 20000 in
theorem gX11_foretold_X11_thingAt : GoodIn wsX11_foretold (wsV RX11 116 RX11 yX11_thingAt wsX11_thingAt) := goodIn_app (goodIn_c (glX11_foretold_0 _ (List.mem_of_getElem? (i := 10) rfl)) (goodIn_c (glX11_foretold_0 _ (List.mem_of_getElem? (i := 11) rfl)) (goodIn_c (glX11_foretold_0 _ (List.mem_of_getElem? (i := 12) rfl)) (goodIn_c (glX11_foretold_0 _ (List.mem_of_getElem? (i := 13) rfl)) (goodIn_n))))) ggX11_foretold_X11_thingAt
set_option maxRecDepth 20000 in
theorem glX11_foretold_1 : GoodIn wsX11_foretold (wsX11_foretold_r2) := goodIn_sub (fun _ h => List.mem_cons_of_mem _ (List.mem_append_left _ (List.mem_append_left _ (List.mem_append_left _ (List.mem_append_left _ (List.mem_append_left _ (List.mem_append_left _ (List.mem_append_left _ (List.mem_append_left _ (List.mem_append_left _ (List.mem_append_right _ (List.mem_append_left _ (h))))))))))))) (by decide +kernel)
set_option maxRecDepth 20000 in
theorem ggX11_foretold_X11_within : GoodIn wsX11_foretold wsX11_within := goodIn_c (glX11_foretold_1 _ (List.mem_of_getElem? (i := 2) rfl)) (goodIn_n)
set_option maxRecDepth 20000 in
theorem gX11_foretold_X11_within : GoodIn wsX11_foretold (va_wsS RX11 87 yX11_within wsX11_within) := goodIn_app (goodIn_c (glX11_foretold_1 _ (List.mem_of_getElem? (i := 3) rfl)) (goodIn_c (glX11_foretold_1 _ (List.mem_of_getElem? (i := 1) rfl)) (goodIn_c (glX11_foretold_0 _ (List.mem_of_getElem? (i := 13) rfl)) (goodIn_n)))) ggX11_foretold_X11_within
set_option maxRecDepth 20000 in
theorem glX11_foretold_4 : GoodIn wsX11_foretold (wsX110) := goodIn_sub (fun _ h => List.mem_cons_of_mem _ (List.mem_append_left _ (List.mem_append_left _ (List.mem_append_left _ (List.mem_append_left _ (List.mem_append_left _ (List.mem_append_left _ (List.mem_append_left _ (List.mem_append_right _ (h)))))))))) ag_wsX110
set_option maxRecDepth 20000 in
theorem glX11_foretold_6 : GoodIn wsX11_foretold (wsX30) := goodIn_sub (fun _ h => List.mem_cons_of_mem _ (List.mem_append_left _ (List.mem_append_left _ (List.mem_append_left _ (List.mem_append_left _ (List.mem_append_left _ (List.mem_append_right _ (h)))))))) ag_wsX30
set_option maxRecDepth 20000 in
theorem glX11_foretold_7 : GoodIn wsX11_foretold (wsX100) := goodIn_sub (fun _ h => List.mem_cons_of_mem _ (List.mem_append_left _ (List.mem_append_left _ (List.mem_append_left _ (List.mem_append_left _ (List.mem_append_right _ (h))))))) ag_wsX100
set_option maxRecDepth 20000 in
theorem ggX11_foretold_X11_salesOf : GoodIn wsX11_foretold wsX11_salesOf := goodIn_c (glX11_foretold_1 _ (List.mem_of_getElem? (i := 7) rfl)) (goodIn_app (goodIn_app (goodIn_app (goodIn_c (glX11_foretold_1 _ (List.mem_of_getElem? (i := 8) rfl)) (goodIn_c (glX11_foretold_1 _ (List.mem_of_getElem? (i := 9) rfl)) (goodIn_c (glX11_foretold_1 _ (List.mem_of_getElem? (i := 10) rfl)) (goodIn_c (glX11_foretold_1 _ (List.mem_of_getElem? (i := 3) rfl)) (goodIn_c (glX11_foretold_1 _ (List.mem_of_getElem? (i := 1) rfl)) (goodIn_c (glX11_foretold_0 _ (List.mem_of_getElem? (i := 13) rfl)) (goodIn_c (glX11_foretold_1 _ (List.mem_of_getElem? (i := 2) rfl)) (goodIn_c (glX11_foretold_1 _ (List.mem_of_getElem? (i := 11) rfl)) (goodIn_c (glX11_foretold_1 _ (List.mem_of_getElem? (i := 12) rfl)) (goodIn_c (glX11_foretold_1 _ (List.mem_of_getElem? (i := 13) rfl)) (goodIn_c (glX11_foretold_1 _ (List.mem_of_getElem? (i := 14) rfl)) (goodIn_c (glX11_foretold_1 _ (List.mem_of_getElem? (i := 15) rfl)) (goodIn_c (glX11_foretold_1 _ (List.mem_of_getElem? (i := 16) rfl)) (goodIn_c (glX11_foretold_1 _ (List.mem_of_getElem? (i := 17) rfl)) (goodIn_c (glX11_foretold_1 _ (List.mem_of_getElem? (i := 18) rfl)) (goodIn_c (glX11_foretold_1 _ (List.mem_of_getElem? (i := 19) rfl)) (goodIn_n))))))))))))))))) (glX11_foretold_4)) (glX11_foretold_6)) (glX11_foretold_7))
set_option maxRecDepth 20000 in
theorem gX11_foretold_X11_salesOf : GoodIn wsX11_foretold (wsV RX11 348 RX11 yX11_salesOf wsX11_salesOf) := goodIn_app (goodIn_c (glX11_foretold_1 _ (List.mem_of_getElem? (i := 4) rfl)) (goodIn_c (glX11_foretold_1 _ (List.mem_of_getElem? (i := 5) rfl)) (goodIn_c (glX11_foretold_1 _ (List.mem_of_getElem? (i := 6) rfl)) (goodIn_c (glX11_foretold_0 _ (List.mem_of_getElem? (i := 13) rfl)) (goodIn_n))))) ggX11_foretold_X11_salesOf
set_option maxRecDepth 20000 in
theorem ggX11_foretold_X11_roundedUp : GoodIn wsX11_foretold wsX11_roundedUp := goodIn_c (glX11_foretold_1 _ (List.mem_of_getElem? (i := 22) rfl)) (goodIn_n)
set_option maxRecDepth 20000 in
theorem gX11_foretold_X11_roundedUp : GoodIn wsX11_foretold (va_wsS RX11 352 yX11_roundedUp wsX11_roundedUp) := goodIn_app (goodIn_c (glX11_foretold_1 _ (List.mem_of_getElem? (i := 20) rfl)) (goodIn_c (glX11_foretold_1 _ (List.mem_of_getElem? (i := 21) rfl)) (goodIn_c (glX11_foretold_0 _ (List.mem_of_getElem? (i := 13) rfl)) (goodIn_n)))) ggX11_foretold_X11_roundedUp
set_option maxRecDepth 20000 in
theorem glX11_foretold_2 : GoodIn wsX11_foretold (wsX11_foretold_r3) := goodIn_sub (fun _ h => List.mem_cons_of_mem _ (List.mem_append_left _ (List.mem_append_left _ (List.mem_append_left _ (List.mem_append_left _ (List.mem_append_left _ (List.mem_append_left _ (List.mem_append_left _ (List.mem_append_left _ (List.mem_append_left _ (List.mem_append_right _ (List.mem_append_right _ (h))))))))))))) (by decide +kernel)
set_option maxRecDepth 20000 in
theorem glX11_foretold_8 : GoodIn wsX11_foretold (wsX10) := goodIn_sub (fun _ h => List.mem_cons_of_mem _ (List.mem_append_left _ (List.mem_append_left _ (List.mem_append_left _ (List.mem_append_right _ (h)))))) ag_wsX10
set_option maxRecDepth 20000 in
theorem ggX11_foretold_X1_piecesOf : GoodIn wsX11_foretold wsX1_piecesOf := goodIn_c (glX11_foretold_2 _ (List.mem_of_getElem? (i := 3) rfl)) (goodIn_app (goodIn_c (glX11_foretold_2 _ (List.mem_of_getElem? (i := 4) rfl)) (goodIn_c (glX11_foretold_2 _ (List.mem_of_getElem? (i := 5) rfl)) (goodIn_c (glX11_foretold_2 _ (List.mem_of_getElem? (i := 6) rfl)) (goodIn_n)))) (glX11_foretold_8))
set_option maxRecDepth 20000 in
theorem gX11_foretold_X1_piecesOf : GoodIn wsX11_foretold (wsV RX11 356 RX1 yX1_piecesOf wsX1_piecesOf) := goodIn_app (goodIn_c (glX11_foretold_1 _ (List.mem_of_getElem? (i := 23) rfl)) (goodIn_c (glX11_foretold_2 _ (List.mem_of_getElem? (i := 0) rfl)) (goodIn_c (glX11_foretold_2 _ (List.mem_of_getElem? (i := 1) rfl)) (goodIn_c (glX11_foretold_2 _ (List.mem_of_getElem? (i := 2) rfl)) (goodIn_n))))) ggX11_foretold_X1_piecesOf
theorem dX11_foretold_0 : decode cX11_foretold 0 = .ok (.aload_n 0, 1) := qdE42 (by decide +kernel)
theorem dX11_foretold_1 : decode cX11_foretold 1 = .ok (.iload_n 1, 1) := qdE27 (by decide +kernel)
theorem dX11_foretold_2 : decode cX11_foretold 2 = .ok (.invokevirtual 116, 3) := qdE182 (by decide +kernel)
theorem dX11_foretold_5 : decode cX11_foretold 5 = .ok (.astore 6, 2) := qdE58 (by decide +kernel)
theorem dX11_foretold_7 : decode cX11_foretold 7 = .ok (.iload_n 2, 1) := qdE28 (by decide +kernel)
theorem dX11_foretold_8 : decode cX11_foretold 8 = .ok (.iconst 0, 1) := qdE3 (by decide +kernel)
theorem dX11_foretold_9 : decode cX11_foretold 9 = .ok (.sipush 999, 3) := qdE17 (by decide +kernel)
theorem dX11_foretold_12 : decode cX11_foretold 12 = .ok (.invokestatic 87, 3) := qdE184 (by decide +kernel)
theorem dX11_foretold_15 : decode cX11_foretold 15 = .ok (.ifCond .eq 26, 3) := qdE153 (by decide +kernel)
theorem dX11_foretold_18 : decode cX11_foretold 18 = .ok (.iload_n 3, 1) := qdE29 (by decide +kernel)
theorem dX11_foretold_19 : decode cX11_foretold 19 = .ok (.iconst 1, 1) := qdE4 (by decide +kernel)
theorem dX11_foretold_20 : decode cX11_foretold 20 = .ok (.sipush 1000, 3) := qdE17 (by decide +kernel)
theorem dX11_foretold_23 : decode cX11_foretold 23 = .ok (.invokestatic 87, 3) := qdE184 (by decide +kernel)
theorem dX11_foretold_26 : decode cX11_foretold 26 = .ok (.ifCond .eq 15, 3) := qdE153 (by decide +kernel)
theorem dX11_foretold_29 : decode cX11_foretold 29 = .ok (.iload 4, 2) := qdE21 (by decide +kernel)
theorem dX11_foretold_31 : decode cX11_foretold 31 = .ok (.iconst 1, 1) := qdE4 (by decide +kernel)
theorem dX11_foretold_32 : decode cX11_foretold 32 = .ok (.sipush 1000, 3) := qdE17 (by decide +kernel)
theorem dX11_foretold_35 : decode cX11_foretold 35 = .ok (.invokestatic 87, 3) := qdE184 (by decide +kernel)
theorem dX11_foretold_38 : decode cX11_foretold 38 = .ok (.ifCond .ne 14, 3) := qdE154 (by decide +kernel)
theorem dX11_foretold_41 : decode cX11_foretold 41 = .ok (.new 91, 3) := qdE187 (by decide +kernel)
theorem dX11_foretold_44 : decode cX11_foretold 44 = .ok (.dup, 1) := qdE89 (by decide +kernel)
theorem dX11_foretold_45 : decode cX11_foretold 45 = .ok (.ldc_w 346, 3) := qdE19 (by decide +kernel)
theorem dX11_foretold_48 : decode cX11_foretold 48 = .ok (.invokespecial 95, 3) := qdE183 (by decide +kernel)
theorem dX11_foretold_51 : decode cX11_foretold 51 = .ok (.athrow, 1) := qdE191 (by decide +kernel)
theorem dX11_foretold_52 : decode cX11_foretold 52 = .ok (.aload_n 0, 1) := qdE42 (by decide +kernel)
theorem dX11_foretold_53 : decode cX11_foretold 53 = .ok (.aload 6, 2) := qdE25 (by decide +kernel)
theorem dX11_foretold_55 : decode cX11_foretold 55 = .ok (.iload_n 2, 1) := qdE28 (by decide +kernel)
theorem dX11_foretold_56 : decode cX11_foretold 56 = .ok (.invokevirtual 348, 3) := qdE182 (by decide +kernel)
theorem dX11_foretold_59 : decode cX11_foretold 59 = .ok (.istore 7, 2) := qdE54 (by decide +kernel)
theorem dX11_foretold_61 : decode cX11_foretold 61 = .ok (.iload 7, 2) := qdE21 (by decide +kernel)
theorem dX11_foretold_63 : decode cX11_foretold 63 = .ok (.sipush 1000, 3) := qdE17 (by decide +kernel)
theorem dX11_foretold_66 : decode cX11_foretold 66 = .ok (.imul, 1) := qdE104 (by decide +kernel)
theorem dX11_foretold_67 : decode cX11_foretold 67 = .ok (.iload_n 3, 1) := qdE29 (by decide +kernel)
theorem dX11_foretold_68 : decode cX11_foretold 68 = .ok (.invokestatic 352, 3) := qdE184 (by decide +kernel)
theorem dX11_foretold_71 : decode cX11_foretold 71 = .ok (.istore 8, 2) := qdE54 (by decide +kernel)
theorem dX11_foretold_73 : decode cX11_foretold 73 = .ok (.iload 5, 2) := qdE21 (by decide +kernel)
theorem dX11_foretold_75 : decode cX11_foretold 75 = .ok (.tableswitch 69 0 2 #[25, 28, 31], 25) := by decide +kernel
theorem dX11_foretold_100 : decode cX11_foretold 100 = .ok (.iload 7, 2) := qdE21 (by decide +kernel)
theorem dX11_foretold_102 : decode cX11_foretold 102 = .ok (.ireturn, 1) := qdE172 (by decide +kernel)
theorem dX11_foretold_103 : decode cX11_foretold 103 = .ok (.iload 8, 2) := qdE21 (by decide +kernel)
theorem dX11_foretold_105 : decode cX11_foretold 105 = .ok (.ireturn, 1) := qdE172 (by decide +kernel)
theorem dX11_foretold_106 : decode cX11_foretold 106 = .ok (.iload 8, 2) := qdE21 (by decide +kernel)
theorem dX11_foretold_108 : decode cX11_foretold 108 = .ok (.iload 7, 2) := qdE21 (by decide +kernel)
theorem dX11_foretold_110 : decode cX11_foretold 110 = .ok (.isub, 1) := qdE100 (by decide +kernel)
theorem dX11_foretold_111 : decode cX11_foretold 111 = .ok (.aload 6, 2) := qdE25 (by decide +kernel)
theorem dX11_foretold_113 : decode cX11_foretold 113 = .ok (.getfield 147, 3) := qdE180 (by decide +kernel)
theorem dX11_foretold_116 : decode cX11_foretold 116 = .ok (.isub, 1) := qdE100 (by decide +kernel)
theorem dX11_foretold_117 : decode cX11_foretold 117 = .ok (.aload_n 0, 1) := qdE42 (by decide +kernel)
theorem dX11_foretold_118 : decode cX11_foretold 118 = .ok (.getfield 26, 3) := qdE180 (by decide +kernel)
theorem dX11_foretold_121 : decode cX11_foretold 121 = .ok (.aload 6, 2) := qdE25 (by decide +kernel)
theorem dX11_foretold_123 : decode cX11_foretold 123 = .ok (.invokevirtual 356, 3) := qdE182 (by decide +kernel)
theorem dX11_foretold_126 : decode cX11_foretold 126 = .ok (.isub, 1) := qdE100 (by decide +kernel)
theorem dX11_foretold_127 : decode cX11_foretold 127 = .ok (.istore 9, 2) := qdE54 (by decide +kernel)
theorem dX11_foretold_129 : decode cX11_foretold 129 = .ok (.iload 9, 2) := qdE21 (by decide +kernel)
theorem dX11_foretold_131 : decode cX11_foretold 131 = .ok (.iconst 0, 1) := qdE3 (by decide +kernel)
theorem dX11_foretold_132 : decode cX11_foretold 132 = .ok (.invokestatic 359, 3) := qdE184 (by decide +kernel)
theorem dX11_foretold_135 : decode cX11_foretold 135 = .ok (.iload 4, 2) := qdE21 (by decide +kernel)
theorem dX11_foretold_137 : decode cX11_foretold 137 = .ok (.invokestatic 352, 3) := qdE184 (by decide +kernel)
theorem dX11_foretold_140 : decode cX11_foretold 140 = .ok (.iload 4, 2) := qdE21 (by decide +kernel)
theorem dX11_foretold_142 : decode cX11_foretold 142 = .ok (.imul, 1) := qdE104 (by decide +kernel)
theorem dX11_foretold_143 : decode cX11_foretold 143 = .ok (.ireturn, 1) := qdE172 (by decide +kernel)
theorem dX11_foretold_144 : decode cX11_foretold 144 = .ok (.new 169, 3) := qdE187 (by decide +kernel)
theorem dX11_foretold_147 : decode cX11_foretold 147 = .ok (.dup, 1) := qdE89 (by decide +kernel)
theorem dX11_foretold_148 : decode cX11_foretold 148 = .ok (.ldc_w 364, 3) := qdE19 (by decide +kernel)
theorem dX11_foretold_151 : decode cX11_foretold 151 = .ok (.invokespecial 173, 3) := qdE183 (by decide +kernel)
theorem dX11_foretold_154 : decode cX11_foretold 154 = .ok (.athrow, 1) := qdE191 (by decide +kernel)
set_option maxRecDepth 20000 in
theorem glX11_count_0 : GoodIn wsX11_count (wsX11_count_r1) := goodIn_sub (fun _ h => List.mem_cons_of_mem _ (List.mem_append_left _ (List.mem_append_left _ (List.mem_append_left _ (List.mem_append_left _ (List.mem_append_left _ (List.mem_append_left _ (List.mem_append_left _ (h))))))))) (by decide +kernel)
set_option maxRecDepth 20000 in
theorem glX11_count_2 : GoodIn wsX11_count (wsX110) := goodIn_sub (fun _ h => List.mem_cons_of_mem _ (List.mem_append_left _ (List.mem_append_left _ (List.mem_append_left _ (List.mem_append_left _ (List.mem_append_left _ (List.mem_append_right _ (h)))))))) ag_wsX110
set_option maxRecDepth 20000 in
theorem glX11_count_5 : GoodIn wsX11_count (wsX20) := goodIn_sub (fun _ h => List.mem_cons_of_mem _ (List.mem_append_left _ (List.mem_append_left _ (List.mem_append_right _ (h))))) ag_wsX20
set_option maxRecDepth 20000 in
theorem ggX11_count_X11_waitingDoubts : GoodIn wsX11_count wsX11_waitingDoubts := goodIn_c (glX11_count_0 _ (List.mem_of_getElem? (i := 13) rfl)) (goodIn_app (goodIn_app (goodIn_c (glX11_count_0 _ (List.mem_of_getElem? (i := 14) rfl)) (goodIn_c (glX11_count_0 _ (List.mem_of_getElem? (i := 15) rfl)) (goodIn_c (glX11_count_0 _ (List.mem_of_getElem? (i := 16) rfl)) (goodIn_n)))) (glX11_count_2)) (glX11_count_5))
set_option maxRecDepth 20000 in
theorem gX11_count_X11_waitingDoubts : GoodIn wsX11_count (wsV RX11 211 RX11 yX11_waitingDoubts wsX11_waitingDoubts) := goodIn_app (goodIn_c (glX11_count_0 _ (List.mem_of_getElem? (i := 9) rfl)) (goodIn_c (glX11_count_0 _ (List.mem_of_getElem? (i := 10) rfl)) (goodIn_c (glX11_count_0 _ (List.mem_of_getElem? (i := 11) rfl)) (goodIn_c (glX11_count_0 _ (List.mem_of_getElem? (i := 12) rfl)) (goodIn_n))))) ggX11_count_X11_waitingDoubts
set_option maxRecDepth 20000 in
theorem glX11_count_6 : GoodIn wsX11_count (wsX30) := goodIn_sub (fun _ h => List.mem_cons_of_mem _ (List.mem_append_left _ (List.mem_append_right _ (h)))) ag_wsX30
set_option maxRecDepth 20000 in
theorem ggX11_count_X11_moneyOfOrders : GoodIn wsX11_count wsX11_moneyOfOrders := goodIn_c (glX11_count_0 _ (List.mem_of_getElem? (i := 20) rfl)) (goodIn_app (goodIn_app (goodIn_c (glX11_count_0 _ (List.mem_of_getElem? (i := 3) rfl)) (goodIn_c (glX11_count_0 _ (List.mem_of_getElem? (i := 21) rfl)) (goodIn_c (glX11_count_0 _ (List.mem_of_getElem? (i := 22) rfl)) (goodIn_n)))) (glX11_count_2)) (glX11_count_6))
set_option maxRecDepth 20000 in
theorem gX11_count_X11_moneyOfOrders : GoodIn wsX11_count (wsV RX11 369 RX11 yX11_moneyOfOrders wsX11_moneyOfOrders) := goodIn_app (goodIn_c (glX11_count_0 _ (List.mem_of_getElem? (i := 17) rfl)) (goodIn_c (glX11_count_0 _ (List.mem_of_getElem? (i := 18) rfl)) (goodIn_c (glX11_count_0 _ (List.mem_of_getElem? (i := 19) rfl)) (goodIn_c (glX11_count_0 _ (List.mem_of_getElem? (i := 12) rfl)) (goodIn_n))))) ggX11_count_X11_moneyOfOrders
set_option maxRecDepth 20000 in
theorem glX11_count_1 : GoodIn wsX11_count (wsX11_count_r2) := goodIn_sub (fun _ h => List.mem_cons_of_mem _ (List.mem_append_left _ (List.mem_append_left _ (List.mem_append_left _ (List.mem_append_left _ (List.mem_append_left _ (List.mem_append_left _ (List.mem_append_right _ (h))))))))) (by decide +kernel)
set_option maxRecDepth 20000 in
theorem ggX11_count_X11_creditOfOrders : GoodIn wsX11_count wsX11_creditOfOrders := goodIn_c (glX11_count_1 _ (List.mem_of_getElem? (i := 2) rfl)) (goodIn_app (goodIn_app (goodIn_c (glX11_count_0 _ (List.mem_of_getElem? (i := 3) rfl)) (goodIn_c (glX11_count_0 _ (List.mem_of_getElem? (i := 21) rfl)) (goodIn_c (glX11_count_1 _ (List.mem_of_getElem? (i := 3) rfl)) (goodIn_n)))) (glX11_count_2)) (glX11_count_6))
set_option maxRecDepth 20000 in
theorem gX11_count_X11_creditOfOrders : GoodIn wsX11_count (wsV RX11 372 RX11 yX11_creditOfOrders wsX11_creditOfOrders) := goodIn_app (goodIn_c (glX11_count_0 _ (List.mem_of_getElem? (i := 23) rfl)) (goodIn_c (glX11_count_1 _ (List.mem_of_getElem? (i := 0) rfl)) (goodIn_c (glX11_count_1 _ (List.mem_of_getElem? (i := 1) rfl)) (goodIn_c (glX11_count_0 _ (List.mem_of_getElem? (i := 12) rfl)) (goodIn_n))))) ggX11_count_X11_creditOfOrders
set_option maxRecDepth 20000 in
theorem glX11_count_7 : GoodIn wsX11_count (wsX10) := goodIn_sub (fun _ h => List.mem_cons_of_mem _ (List.mem_append_right _ (h))) ag_wsX10
set_option maxRecDepth 20000 in
theorem ggX11_count_X1_allPieces : GoodIn wsX11_count wsX1_allPieces := goodIn_c (glX11_count_1 _ (List.mem_of_getElem? (i := 8) rfl)) (goodIn_app (goodIn_c (glX11_count_1 _ (List.mem_of_getElem? (i := 9) rfl)) (goodIn_c (glX11_count_1 _ (List.mem_of_getElem? (i := 10) rfl)) (goodIn_n))) (glX11_count_7))
set_option maxRecDepth 20000 in
theorem gX11_count_X1_allPieces : GoodIn wsX11_count (wsV RX11 375 RX1 yX1_allPieces wsX1_allPieces) := goodIn_app (goodIn_c (glX11_count_1 _ (List.mem_of_getElem? (i := 4) rfl)) (goodIn_c (glX11_count_1 _ (List.mem_of_getElem? (i := 5) rfl)) (goodIn_c (glX11_count_1 _ (List.mem_of_getElem? (i := 6) rfl)) (goodIn_c (glX11_count_1 _ (List.mem_of_getElem? (i := 7) rfl)) (goodIn_n))))) ggX11_count_X1_allPieces
theorem dX11_count_0 : decode cX11_count 0 = .ok (.iload_n 1, 1) := qdE27 (by decide +kernel)
theorem dX11_count_1 : decode cX11_count 1 = .ok (.tableswitch 114 0 9 #[55, 60, 68, 73, 78, 83, 91, 96, 101, 106], 55) := by decide +kernel
theorem dX11_count_56 : decode cX11_count 56 = .ok (.aload_n 0, 1) := qdE42 (by decide +kernel)
theorem dX11_count_57 : decode cX11_count 57 = .ok (.getfield 136, 3) := qdE180 (by decide +kernel)
theorem dX11_count_60 : decode cX11_count 60 = .ok (.ireturn, 1) := qdE172 (by decide +kernel)
theorem dX11_count_61 : decode cX11_count 61 = .ok (.aload_n 0, 1) := qdE42 (by decide +kernel)
theorem dX11_count_62 : decode cX11_count 62 = .ok (.getfield 19, 3) := qdE180 (by decide +kernel)
theorem dX11_count_65 : decode cX11_count 65 = .ok (.getfield 104, 3) := qdE180 (by decide +kernel)
theorem dX11_count_68 : decode cX11_count 68 = .ok (.ireturn, 1) := qdE172 (by decide +kernel)
theorem dX11_count_69 : decode cX11_count 69 = .ok (.aload_n 0, 1) := qdE42 (by decide +kernel)
theorem dX11_count_70 : decode cX11_count 70 = .ok (.getfield 366, 3) := qdE180 (by decide +kernel)
theorem dX11_count_73 : decode cX11_count 73 = .ok (.ireturn, 1) := qdE172 (by decide +kernel)
theorem dX11_count_74 : decode cX11_count 74 = .ok (.aload_n 0, 1) := qdE42 (by decide +kernel)
theorem dX11_count_75 : decode cX11_count 75 = .ok (.invokevirtual 211, 3) := qdE182 (by decide +kernel)
theorem dX11_count_78 : decode cX11_count 78 = .ok (.ireturn, 1) := qdE172 (by decide +kernel)
theorem dX11_count_79 : decode cX11_count 79 = .ok (.aload_n 0, 1) := qdE42 (by decide +kernel)
theorem dX11_count_80 : decode cX11_count 80 = .ok (.getfield 319, 3) := qdE180 (by decide +kernel)
theorem dX11_count_83 : decode cX11_count 83 = .ok (.ireturn, 1) := qdE172 (by decide +kernel)
theorem dX11_count_84 : decode cX11_count 84 = .ok (.aload_n 0, 1) := qdE42 (by decide +kernel)
theorem dX11_count_85 : decode cX11_count 85 = .ok (.getfield 68, 3) := qdE180 (by decide +kernel)
theorem dX11_count_88 : decode cX11_count 88 = .ok (.getfield 345, 3) := qdE180 (by decide +kernel)
theorem dX11_count_91 : decode cX11_count 91 = .ok (.ireturn, 1) := qdE172 (by decide +kernel)
theorem dX11_count_92 : decode cX11_count 92 = .ok (.aload_n 0, 1) := qdE42 (by decide +kernel)
theorem dX11_count_93 : decode cX11_count 93 = .ok (.getfield 204, 3) := qdE180 (by decide +kernel)
theorem dX11_count_96 : decode cX11_count 96 = .ok (.ireturn, 1) := qdE172 (by decide +kernel)
theorem dX11_count_97 : decode cX11_count 97 = .ok (.aload_n 0, 1) := qdE42 (by decide +kernel)
theorem dX11_count_98 : decode cX11_count 98 = .ok (.invokevirtual 369, 3) := qdE182 (by decide +kernel)
theorem dX11_count_101 : decode cX11_count 101 = .ok (.ireturn, 1) := qdE172 (by decide +kernel)
theorem dX11_count_102 : decode cX11_count 102 = .ok (.aload_n 0, 1) := qdE42 (by decide +kernel)
theorem dX11_count_103 : decode cX11_count 103 = .ok (.invokevirtual 372, 3) := qdE182 (by decide +kernel)
theorem dX11_count_106 : decode cX11_count 106 = .ok (.ireturn, 1) := qdE172 (by decide +kernel)
theorem dX11_count_107 : decode cX11_count 107 = .ok (.aload_n 0, 1) := qdE42 (by decide +kernel)
theorem dX11_count_108 : decode cX11_count 108 = .ok (.getfield 26, 3) := qdE180 (by decide +kernel)
theorem dX11_count_111 : decode cX11_count 111 = .ok (.invokevirtual 375, 3) := qdE182 (by decide +kernel)
theorem dX11_count_114 : decode cX11_count 114 = .ok (.ireturn, 1) := qdE172 (by decide +kernel)
theorem dX11_count_115 : decode cX11_count 115 = .ok (.iconst (-1), 1) := qdE2 (by decide +kernel)
theorem dX11_count_116 : decode cX11_count 116 = .ok (.ireturn, 1) := qdE172 (by decide +kernel)
theorem dX11_within_0 : decode cX11_within 0 = .ok (.iload_n 0, 1) := qdE26 (by decide +kernel)
theorem dX11_within_1 : decode cX11_within 1 = .ok (.iload_n 1, 1) := qdE27 (by decide +kernel)
theorem dX11_within_2 : decode cX11_within 2 = .ok (.if_icmp .lt 12, 3) := qdE161 (by decide +kernel)
theorem dX11_within_5 : decode cX11_within 5 = .ok (.iload_n 0, 1) := qdE26 (by decide +kernel)
theorem dX11_within_6 : decode cX11_within 6 = .ok (.iload_n 2, 1) := qdE28 (by decide +kernel)
theorem dX11_within_7 : decode cX11_within 7 = .ok (.if_icmp .gt 7, 3) := qdE163 (by decide +kernel)
theorem dX11_within_10 : decode cX11_within 10 = .ok (.iconst 1, 1) := qdE4 (by decide +kernel)
theorem dX11_within_11 : decode cX11_within 11 = .ok (.goto 4, 3) := qdE167 (by decide +kernel)
theorem dX11_within_14 : decode cX11_within 14 = .ok (.iconst 0, 1) := qdE3 (by decide +kernel)
theorem dX11_within_15 : decode cX11_within 15 = .ok (.ireturn, 1) := qdE172 (by decide +kernel)
theorem dX11_roundedUp_0 : decode cX11_roundedUp 0 = .ok (.iload_n 1, 1) := qdE27 (by decide +kernel)
theorem dX11_roundedUp_1 : decode cX11_roundedUp 1 = .ok (.iconst 1, 1) := qdE4 (by decide +kernel)
theorem dX11_roundedUp_2 : decode cX11_roundedUp 2 = .ok (.if_icmp .ge 7, 3) := qdE162 (by decide +kernel)
theorem dX11_roundedUp_5 : decode cX11_roundedUp 5 = .ok (.iconst 0, 1) := qdE3 (by decide +kernel)
theorem dX11_roundedUp_6 : decode cX11_roundedUp 6 = .ok (.goto 10, 3) := qdE167 (by decide +kernel)
theorem dX11_roundedUp_9 : decode cX11_roundedUp 9 = .ok (.iload_n 0, 1) := qdE26 (by decide +kernel)
theorem dX11_roundedUp_10 : decode cX11_roundedUp 10 = .ok (.iload_n 1, 1) := qdE27 (by decide +kernel)
theorem dX11_roundedUp_11 : decode cX11_roundedUp 11 = .ok (.iadd, 1) := qdE96 (by decide +kernel)
theorem dX11_roundedUp_12 : decode cX11_roundedUp 12 = .ok (.iconst 1, 1) := qdE4 (by decide +kernel)
theorem dX11_roundedUp_13 : decode cX11_roundedUp 13 = .ok (.isub, 1) := qdE100 (by decide +kernel)
theorem dX11_roundedUp_14 : decode cX11_roundedUp 14 = .ok (.iload_n 1, 1) := qdE27 (by decide +kernel)
theorem dX11_roundedUp_15 : decode cX11_roundedUp 15 = .ok (.idiv, 1) := qdE108 (by decide +kernel)
theorem dX11_roundedUp_16 : decode cX11_roundedUp 16 = .ok (.ireturn, 1) := qdE172 (by decide +kernel)
set_option maxRecDepth 20000 in
theorem glX11_thingAt_0 : GoodIn wsX11_thingAt ([Cond.classLink RX11 322 "java/lang/IndexOutOfBoundsException", Cond.initialized "java/lang/IndexOutOfBoundsException", Cond.fieldLink RX11 19 "PostHouse" "book" "LPostHouse$Book;", Cond.methodLink RX11 378 yX0_at, Cond.instanceMethod yX0_at, Cond.selects RX0 yX0_at yX0_at, Cond.initialized RX0, Cond.code yX0_at cX0_at 2 (some (.object "PostHouse$Thing")), Cond.fieldLink RX0 17 "PostHouse$Book" "size" "I", Cond.fieldLink RX0 11 "PostHouse$Book" "things" "[LPostHouse$Thing;", Cond.static yX11_within, Cond.initialized RX11, Cond.code yX11_within cX11_within 3 (some .boolean)]) := goodIn_sub (fun _ h => List.mem_cons_of_mem _ (List.mem_append_left _ (List.mem_append_left _ (List.mem_append_left _ (h))))) (by decide +kernel)
set_option maxRecDepth 20000 in
theorem glX11_thingAt_2 : GoodIn wsX11_thingAt (wsX00) := goodIn_sub (fun _ h => List.mem_cons_of_mem _ (List.mem_append_left _ (List.mem_append_right _ (h)))) ag_wsX00
set_option maxRecDepth 20000 in
theorem ggX11_thingAt_X0_at : GoodIn wsX11_thingAt wsX0_at := goodIn_c (glX11_thingAt_0 _ (List.mem_of_getElem? (i := 7) rfl)) (goodIn_app (goodIn_c (glX11_thingAt_0 _ (List.mem_of_getElem? (i := 8) rfl)) (goodIn_c (glX11_thingAt_0 _ (List.mem_of_getElem? (i := 9) rfl)) (goodIn_c (glX11_thingAt_0 _ (List.mem_of_getElem? (i := 10) rfl)) (goodIn_c (glX11_thingAt_0 _ (List.mem_of_getElem? (i := 11) rfl)) (goodIn_c (glX11_thingAt_0 _ (List.mem_of_getElem? (i := 12) rfl)) (goodIn_n)))))) (glX11_thingAt_2))
set_option maxRecDepth 20000 in
theorem gX11_thingAt_X0_at : GoodIn wsX11_thingAt (wsV RX11 378 RX0 yX0_at wsX0_at) := goodIn_app (goodIn_c (glX11_thingAt_0 _ (List.mem_of_getElem? (i := 3) rfl)) (goodIn_c (glX11_thingAt_0 _ (List.mem_of_getElem? (i := 4) rfl)) (goodIn_c (glX11_thingAt_0 _ (List.mem_of_getElem? (i := 5) rfl)) (goodIn_c (glX11_thingAt_0 _ (List.mem_of_getElem? (i := 6) rfl)) (goodIn_n))))) ggX11_thingAt_X0_at
theorem dX11_thingAt_0 : decode cX11_thingAt 0 = .ok (.aload_n 0, 1) := qdE42 (by decide +kernel)
theorem dX11_thingAt_1 : decode cX11_thingAt 1 = .ok (.getfield 19, 3) := qdE180 (by decide +kernel)
theorem dX11_thingAt_4 : decode cX11_thingAt 4 = .ok (.iload_n 1, 1) := qdE27 (by decide +kernel)
theorem dX11_thingAt_5 : decode cX11_thingAt 5 = .ok (.invokevirtual 378, 3) := qdE182 (by decide +kernel)
theorem dX11_thingAt_8 : decode cX11_thingAt 8 = .ok (.astore_n 2, 1) := qdE77 (by decide +kernel)
theorem dX11_thingAt_9 : decode cX11_thingAt 9 = .ok (.aload_n 2, 1) := qdE44 (by decide +kernel)
theorem dX11_thingAt_10 : decode cX11_thingAt 10 = .ok (.ifnonnull 14, 3) := qdE199 (by decide +kernel)
theorem dX11_thingAt_13 : decode cX11_thingAt 13 = .ok (.new 322, 3) := qdE187 (by decide +kernel)
theorem dX11_thingAt_16 : decode cX11_thingAt 16 = .ok (.dup, 1) := qdE89 (by decide +kernel)
theorem dX11_thingAt_17 : decode cX11_thingAt 17 = .ok (.ldc_w 381, 3) := qdE19 (by decide +kernel)
theorem dX11_thingAt_20 : decode cX11_thingAt 20 = .ok (.invokespecial 326, 3) := qdE183 (by decide +kernel)
theorem dX11_thingAt_23 : decode cX11_thingAt 23 = .ok (.athrow, 1) := qdE191 (by decide +kernel)
theorem dX11_thingAt_24 : decode cX11_thingAt 24 = .ok (.aload_n 2, 1) := qdE44 (by decide +kernel)
theorem dX11_thingAt_25 : decode cX11_thingAt 25 = .ok (.areturn, 1) := qdE176 (by decide +kernel)
set_option maxRecDepth 20000 in
theorem glX11_doubtAt_0 : GoodIn wsX11_doubtAt ([Cond.classLink RX11 322 "java/lang/IndexOutOfBoundsException", Cond.initialized "java/lang/IndexOutOfBoundsException", Cond.fieldLink RX11 215 "PostHouse" "doubtCount" "I", Cond.fieldLink RX11 42 "PostHouse" "doubts" "[LPostHouse$Letter;", Cond.methodLink RX11 87 yX11_within, Cond.static yX11_within, Cond.initialized RX11, Cond.code yX11_within cX11_within 3 (some .boolean)]) := goodIn_sub (fun _ h => List.mem_cons_of_mem _ (List.mem_append_left _ (List.mem_append_left _ (h)))) (by decide +kernel)
set_option maxRecDepth 20000 in
theorem ggX11_doubtAt_X11_within : GoodIn wsX11_doubtAt wsX11_within := goodIn_c (glX11_doubtAt_0 _ (List.mem_of_getElem? (i := 7) rfl)) (goodIn_n)
set_option maxRecDepth 20000 in
theorem gX11_doubtAt_X11_within : GoodIn wsX11_doubtAt (va_wsS RX11 87 yX11_within wsX11_within) := goodIn_app (goodIn_c (glX11_doubtAt_0 _ (List.mem_of_getElem? (i := 4) rfl)) (goodIn_c (glX11_doubtAt_0 _ (List.mem_of_getElem? (i := 5) rfl)) (goodIn_c (glX11_doubtAt_0 _ (List.mem_of_getElem? (i := 6) rfl)) (goodIn_n)))) ggX11_doubtAt_X11_within
theorem dX11_doubtAt_0 : decode cX11_doubtAt 0 = .ok (.iload_n 1, 1) := qdE27 (by decide +kernel)
theorem dX11_doubtAt_1 : decode cX11_doubtAt 1 = .ok (.iconst 0, 1) := qdE3 (by decide +kernel)
theorem dX11_doubtAt_2 : decode cX11_doubtAt 2 = .ok (.aload_n 0, 1) := qdE42 (by decide +kernel)
theorem dX11_doubtAt_3 : decode cX11_doubtAt 3 = .ok (.getfield 215, 3) := qdE180 (by decide +kernel)
theorem dX11_doubtAt_6 : decode cX11_doubtAt 6 = .ok (.iconst 1, 1) := qdE4 (by decide +kernel)
theorem dX11_doubtAt_7 : decode cX11_doubtAt 7 = .ok (.isub, 1) := qdE100 (by decide +kernel)
theorem dX11_doubtAt_8 : decode cX11_doubtAt 8 = .ok (.invokestatic 87, 3) := qdE184 (by decide +kernel)
theorem dX11_doubtAt_11 : decode cX11_doubtAt 11 = .ok (.ifCond .ne 14, 3) := qdE154 (by decide +kernel)
theorem dX11_doubtAt_14 : decode cX11_doubtAt 14 = .ok (.new 322, 3) := qdE187 (by decide +kernel)
theorem dX11_doubtAt_17 : decode cX11_doubtAt 17 = .ok (.dup, 1) := qdE89 (by decide +kernel)
theorem dX11_doubtAt_18 : decode cX11_doubtAt 18 = .ok (.ldc_w 383, 3) := qdE19 (by decide +kernel)
theorem dX11_doubtAt_21 : decode cX11_doubtAt 21 = .ok (.invokespecial 326, 3) := qdE183 (by decide +kernel)
theorem dX11_doubtAt_24 : decode cX11_doubtAt 24 = .ok (.athrow, 1) := qdE191 (by decide +kernel)
theorem dX11_doubtAt_25 : decode cX11_doubtAt 25 = .ok (.aload_n 0, 1) := qdE42 (by decide +kernel)
theorem dX11_doubtAt_26 : decode cX11_doubtAt 26 = .ok (.getfield 42, 3) := qdE180 (by decide +kernel)
theorem dX11_doubtAt_29 : decode cX11_doubtAt 29 = .ok (.iload_n 1, 1) := qdE27 (by decide +kernel)
theorem dX11_doubtAt_30 : decode cX11_doubtAt 30 = .ok (.aaload, 1) := qdE50 (by decide +kernel)
theorem dX11_doubtAt_31 : decode cX11_doubtAt 31 = .ok (.areturn, 1) := qdE176 (by decide +kernel)
set_option maxRecDepth 20000 in
theorem glX11_orderAt_0 : GoodIn wsX11_orderAt ([Cond.classLink RX11 322 "java/lang/IndexOutOfBoundsException", Cond.initialized "java/lang/IndexOutOfBoundsException", Cond.fieldLink RX11 366 "PostHouse" "orderCount" "I", Cond.fieldLink RX11 48 "PostHouse" "orders" "[LPostHouse$Order;", Cond.methodLink RX11 87 yX11_within, Cond.static yX11_within, Cond.initialized RX11, Cond.code yX11_within cX11_within 3 (some .boolean)]) := goodIn_sub (fun _ h => List.mem_cons_of_mem _ (List.mem_append_left _ (List.mem_append_left _ (h)))) (by decide +kernel)
set_option maxRecDepth 20000 in
theorem ggX11_orderAt_X11_within : GoodIn wsX11_orderAt wsX11_within := goodIn_c (glX11_orderAt_0 _ (List.mem_of_getElem? (i := 7) rfl)) (goodIn_n)
set_option maxRecDepth 20000 in
theorem gX11_orderAt_X11_within : GoodIn wsX11_orderAt (va_wsS RX11 87 yX11_within wsX11_within) := goodIn_app (goodIn_c (glX11_orderAt_0 _ (List.mem_of_getElem? (i := 4) rfl)) (goodIn_c (glX11_orderAt_0 _ (List.mem_of_getElem? (i := 5) rfl)) (goodIn_c (glX11_orderAt_0 _ (List.mem_of_getElem? (i := 6) rfl)) (goodIn_n)))) ggX11_orderAt_X11_within
theorem dX11_orderAt_0 : decode cX11_orderAt 0 = .ok (.iload_n 1, 1) := qdE27 (by decide +kernel)
theorem dX11_orderAt_1 : decode cX11_orderAt 1 = .ok (.iconst 0, 1) := qdE3 (by decide +kernel)
theorem dX11_orderAt_2 : decode cX11_orderAt 2 = .ok (.aload_n 0, 1) := qdE42 (by decide +kernel)
theorem dX11_orderAt_3 : decode cX11_orderAt 3 = .ok (.getfield 366, 3) := qdE180 (by decide +kernel)
theorem dX11_orderAt_6 : decode cX11_orderAt 6 = .ok (.iconst 1, 1) := qdE4 (by decide +kernel)
theorem dX11_orderAt_7 : decode cX11_orderAt 7 = .ok (.isub, 1) := qdE100 (by decide +kernel)
theorem dX11_orderAt_8 : decode cX11_orderAt 8 = .ok (.invokestatic 87, 3) := qdE184 (by decide +kernel)
theorem dX11_orderAt_11 : decode cX11_orderAt 11 = .ok (.ifCond .ne 14, 3) := qdE154 (by decide +kernel)
theorem dX11_orderAt_14 : decode cX11_orderAt 14 = .ok (.new 322, 3) := qdE187 (by decide +kernel)
theorem dX11_orderAt_17 : decode cX11_orderAt 17 = .ok (.dup, 1) := qdE89 (by decide +kernel)
theorem dX11_orderAt_18 : decode cX11_orderAt 18 = .ok (.ldc_w 385, 3) := qdE19 (by decide +kernel)
theorem dX11_orderAt_21 : decode cX11_orderAt 21 = .ok (.invokespecial 326, 3) := qdE183 (by decide +kernel)
theorem dX11_orderAt_24 : decode cX11_orderAt 24 = .ok (.athrow, 1) := qdE191 (by decide +kernel)
theorem dX11_orderAt_25 : decode cX11_orderAt 25 = .ok (.aload_n 0, 1) := qdE42 (by decide +kernel)
theorem dX11_orderAt_26 : decode cX11_orderAt 26 = .ok (.getfield 48, 3) := qdE180 (by decide +kernel)
theorem dX11_orderAt_29 : decode cX11_orderAt 29 = .ok (.iload_n 1, 1) := qdE27 (by decide +kernel)
theorem dX11_orderAt_30 : decode cX11_orderAt 30 = .ok (.aaload, 1) := qdE50 (by decide +kernel)
theorem dX11_orderAt_31 : decode cX11_orderAt 31 = .ok (.areturn, 1) := qdE176 (by decide +kernel)
set_option maxRecDepth 20000 in
theorem glX11_wantAt_0 : GoodIn wsX11_wantAt ([Cond.classLink RX11 322 "java/lang/IndexOutOfBoundsException", Cond.initialized "java/lang/IndexOutOfBoundsException", Cond.fieldLink RX11 259 "PostHouse$Order" "size" "I", Cond.fieldLink RX11 389 "PostHouse$Order" "wants" "[LPostHouse$Want;", Cond.methodLink RX11 87 yX11_within, Cond.static yX11_within, Cond.initialized RX11, Cond.code yX11_within cX11_within 3 (some .boolean)]) := goodIn_sub (fun _ h => List.mem_cons_of_mem _ (List.mem_append_left _ (List.mem_append_left _ (h)))) (by decide +kernel)
set_option maxRecDepth 20000 in
theorem ggX11_wantAt_X11_within : GoodIn wsX11_wantAt wsX11_within := goodIn_c (glX11_wantAt_0 _ (List.mem_of_getElem? (i := 7) rfl)) (goodIn_n)
set_option maxRecDepth 20000 in
theorem gX11_wantAt_X11_within : GoodIn wsX11_wantAt (va_wsS RX11 87 yX11_within wsX11_within) := goodIn_app (goodIn_c (glX11_wantAt_0 _ (List.mem_of_getElem? (i := 4) rfl)) (goodIn_c (glX11_wantAt_0 _ (List.mem_of_getElem? (i := 5) rfl)) (goodIn_c (glX11_wantAt_0 _ (List.mem_of_getElem? (i := 6) rfl)) (goodIn_n)))) ggX11_wantAt_X11_within
theorem dX11_wantAt_0 : decode cX11_wantAt 0 = .ok (.iload_n 1, 1) := qdE27 (by decide +kernel)
theorem dX11_wantAt_1 : decode cX11_wantAt 1 = .ok (.iconst 0, 1) := qdE3 (by decide +kernel)
theorem dX11_wantAt_2 : decode cX11_wantAt 2 = .ok (.aload_n 0, 1) := qdE42 (by decide +kernel)
theorem dX11_wantAt_3 : decode cX11_wantAt 3 = .ok (.getfield 259, 3) := qdE180 (by decide +kernel)
theorem dX11_wantAt_6 : decode cX11_wantAt 6 = .ok (.iconst 1, 1) := qdE4 (by decide +kernel)
theorem dX11_wantAt_7 : decode cX11_wantAt 7 = .ok (.isub, 1) := qdE100 (by decide +kernel)
theorem dX11_wantAt_8 : decode cX11_wantAt 8 = .ok (.invokestatic 87, 3) := qdE184 (by decide +kernel)
theorem dX11_wantAt_11 : decode cX11_wantAt 11 = .ok (.ifCond .ne 14, 3) := qdE154 (by decide +kernel)
theorem dX11_wantAt_14 : decode cX11_wantAt 14 = .ok (.new 322, 3) := qdE187 (by decide +kernel)
theorem dX11_wantAt_17 : decode cX11_wantAt 17 = .ok (.dup, 1) := qdE89 (by decide +kernel)
theorem dX11_wantAt_18 : decode cX11_wantAt 18 = .ok (.ldc_w 387, 3) := qdE19 (by decide +kernel)
theorem dX11_wantAt_21 : decode cX11_wantAt 21 = .ok (.invokespecial 326, 3) := qdE183 (by decide +kernel)
theorem dX11_wantAt_24 : decode cX11_wantAt 24 = .ok (.athrow, 1) := qdE191 (by decide +kernel)
theorem dX11_wantAt_25 : decode cX11_wantAt 25 = .ok (.aload_n 0, 1) := qdE42 (by decide +kernel)
theorem dX11_wantAt_26 : decode cX11_wantAt 26 = .ok (.getfield 389, 3) := qdE180 (by decide +kernel)
theorem dX11_wantAt_29 : decode cX11_wantAt 29 = .ok (.iload_n 1, 1) := qdE27 (by decide +kernel)
theorem dX11_wantAt_30 : decode cX11_wantAt 30 = .ok (.aaload, 1) := qdE50 (by decide +kernel)
theorem dX11_wantAt_31 : decode cX11_wantAt 31 = .ok (.areturn, 1) := qdE176 (by decide +kernel)
theorem dX11_needRoomForOrder_0 : decode cX11_needRoomForOrder 0 = .ok (.aload_n 0, 1) := qdE42 (by decide +kernel)
theorem dX11_needRoomForOrder_1 : decode cX11_needRoomForOrder 1 = .ok (.getfield 366, 3) := qdE180 (by decide +kernel)
theorem dX11_needRoomForOrder_4 : decode cX11_needRoomForOrder 4 = .ok (.bipush 60, 2) := qdE16 (by decide +kernel)
theorem dX11_needRoomForOrder_6 : decode cX11_needRoomForOrder 6 = .ok (.if_icmp .lt 14, 3) := qdE161 (by decide +kernel)
theorem dX11_needRoomForOrder_9 : decode cX11_needRoomForOrder 9 = .ok (.new 107, 3) := qdE187 (by decide +kernel)
theorem dX11_needRoomForOrder_12 : decode cX11_needRoomForOrder 12 = .ok (.dup, 1) := qdE89 (by decide +kernel)
theorem dX11_needRoomForOrder_13 : decode cX11_needRoomForOrder 13 = .ok (.ldc_w 393, 3) := qdE19 (by decide +kernel)
theorem dX11_needRoomForOrder_16 : decode cX11_needRoomForOrder 16 = .ok (.invokespecial 111, 3) := qdE183 (by decide +kernel)
theorem dX11_needRoomForOrder_19 : decode cX11_needRoomForOrder 19 = .ok (.athrow, 1) := qdE191 (by decide +kernel)
theorem dX11_needRoomForOrder_20 : decode cX11_needRoomForOrder 20 = .ok (.return_, 1) := qdE177 (by decide +kernel)
set_option maxRecDepth 20000 in
theorem glX11_closeTape_0 : GoodIn wsX11_closeTape ([Cond.fieldLink RX11 10 "PostHouse" "tape" "LPostHouse$Tape;", Cond.fieldLink RX11 398 "PostHouse$Tape" "wrong" "I", Cond.fieldLink RX11 72 "PostHouse" "fault" "I", Cond.fieldLink RX11 84 "PostHouse$Tape" "length" "I", Cond.methodLink RX11 395 yX7_needEnd, Cond.instanceMethod yX7_needEnd, Cond.selects RX7 yX7_needEnd yX7_needEnd, Cond.initialized RX7, Cond.code yX7_needEnd cX7_needEnd 1 none, Cond.fieldLink RX7 22 "PostHouse$Tape" "next" "I", Cond.fieldLink RX7 19 "PostHouse$Tape" "length" "I", Cond.methodLink RX7 46 yX7_refuse, Cond.instanceMethod yX7_refuse, Cond.selects RX7 yX7_refuse yX7_refuse, Cond.code yX7_refuse cX7_refuse 2 none, Cond.fieldLink RX7 15 "PostHouse$Tape" "wrong" "I"]) := goodIn_sub (fun _ h => List.mem_cons_of_mem _ (List.mem_append_left _ (List.mem_append_left _ (h)))) (by decide +kernel)
set_option maxRecDepth 20000 in
theorem glX11_closeTape_2 : GoodIn wsX11_closeTape (wsX70) := goodIn_sub (fun _ h => List.mem_cons_of_mem _ (List.mem_append_right _ (h))) ag_wsX70
set_option maxRecDepth 20000 in
theorem ggX11_closeTape_X7_needEnd : GoodIn wsX11_closeTape wsX7_needEnd := goodIn_c (glX11_closeTape_0 _ (List.mem_of_getElem? (i := 8) rfl)) (goodIn_app (goodIn_c (glX11_closeTape_0 _ (List.mem_of_getElem? (i := 9) rfl)) (goodIn_c (glX11_closeTape_0 _ (List.mem_of_getElem? (i := 10) rfl)) (goodIn_c (glX11_closeTape_0 _ (List.mem_of_getElem? (i := 11) rfl)) (goodIn_c (glX11_closeTape_0 _ (List.mem_of_getElem? (i := 12) rfl)) (goodIn_c (glX11_closeTape_0 _ (List.mem_of_getElem? (i := 13) rfl)) (goodIn_c (glX11_closeTape_0 _ (List.mem_of_getElem? (i := 7) rfl)) (goodIn_c (glX11_closeTape_0 _ (List.mem_of_getElem? (i := 14) rfl)) (goodIn_c (glX11_closeTape_0 _ (List.mem_of_getElem? (i := 15) rfl)) (goodIn_n))))))))) (glX11_closeTape_2))
set_option maxRecDepth 20000 in
theorem gX11_closeTape_X7_needEnd : GoodIn wsX11_closeTape (wsV RX11 395 RX7 yX7_needEnd wsX7_needEnd) := goodIn_app (goodIn_c (glX11_closeTape_0 _ (List.mem_of_getElem? (i := 4) rfl)) (goodIn_c (glX11_closeTape_0 _ (List.mem_of_getElem? (i := 5) rfl)) (goodIn_c (glX11_closeTape_0 _ (List.mem_of_getElem? (i := 6) rfl)) (goodIn_c (glX11_closeTape_0 _ (List.mem_of_getElem? (i := 7) rfl)) (goodIn_n))))) ggX11_closeTape_X7_needEnd
theorem dX11_closeTape_0 : decode cX11_closeTape 0 = .ok (.aload_n 0, 1) := qdE42 (by decide +kernel)
theorem dX11_closeTape_1 : decode cX11_closeTape 1 = .ok (.getfield 10, 3) := qdE180 (by decide +kernel)
theorem dX11_closeTape_4 : decode cX11_closeTape 4 = .ok (.invokevirtual 395, 3) := qdE182 (by decide +kernel)
theorem dX11_closeTape_7 : decode cX11_closeTape 7 = .ok (.aload_n 0, 1) := qdE42 (by decide +kernel)
theorem dX11_closeTape_8 : decode cX11_closeTape 8 = .ok (.aload_n 0, 1) := qdE42 (by decide +kernel)
theorem dX11_closeTape_9 : decode cX11_closeTape 9 = .ok (.getfield 10, 3) := qdE180 (by decide +kernel)
theorem dX11_closeTape_12 : decode cX11_closeTape 12 = .ok (.getfield 398, 3) := qdE180 (by decide +kernel)
theorem dX11_closeTape_15 : decode cX11_closeTape 15 = .ok (.putfield 72, 3) := qdE181 (by decide +kernel)
theorem dX11_closeTape_18 : decode cX11_closeTape 18 = .ok (.aload_n 0, 1) := qdE42 (by decide +kernel)
theorem dX11_closeTape_19 : decode cX11_closeTape 19 = .ok (.getfield 10, 3) := qdE180 (by decide +kernel)
theorem dX11_closeTape_22 : decode cX11_closeTape 22 = .ok (.iconst 0, 1) := qdE3 (by decide +kernel)
theorem dX11_closeTape_23 : decode cX11_closeTape 23 = .ok (.putfield 84, 3) := qdE181 (by decide +kernel)
theorem dX11_closeTape_26 : decode cX11_closeTape 26 = .ok (.return_, 1) := qdE177 (by decide +kernel)
set_option maxRecDepth 20000 in
theorem glX11_readRule_0 : GoodIn wsX11_readRule (wsX11_readRule_r1) := goodIn_sub (fun _ h => List.mem_cons_of_mem _ (List.mem_append_left _ (List.mem_append_left _ (List.mem_append_left _ (List.mem_append_left _ (List.mem_append_left _ (List.mem_append_left _ (h)))))))) (by decide +kernel)
set_option maxRecDepth 20000 in
theorem glX11_readRule_1 : GoodIn wsX11_readRule (wsX11_readRule_r2) := goodIn_sub (fun _ h => List.mem_cons_of_mem _ (List.mem_append_left _ (List.mem_append_left _ (List.mem_append_left _ (List.mem_append_left _ (List.mem_append_left _ (List.mem_append_right _ (List.mem_append_left _ (h))))))))) (by decide +kernel)
set_option maxRecDepth 20000 in
theorem glX11_readRule_2 : GoodIn wsX11_readRule (wsX11_readRule_r3) := goodIn_sub (fun _ h => List.mem_cons_of_mem _ (List.mem_append_left _ (List.mem_append_left _ (List.mem_append_left _ (List.mem_append_left _ (List.mem_append_left _ (List.mem_append_right _ (List.mem_append_right _ (List.mem_append_left _ (h)))))))))) (by decide +kernel)
set_option maxRecDepth 20000 in
theorem glX11_readRule_7 : GoodIn wsX11_readRule (wsX70) := goodIn_sub (fun _ h => List.mem_cons_of_mem _ (List.mem_append_left _ (List.mem_append_left _ (List.mem_append_left _ (List.mem_append_right _ (h)))))) ag_wsX70
set_option maxRecDepth 20000 in
theorem ggX11_readRule_X7_takesWord : GoodIn wsX11_readRule wsX7_takesWord := goodIn_c (glX11_readRule_0 _ (List.mem_of_getElem? (i := 9) rfl)) (goodIn_app (goodIn_app (goodIn_c (glX11_readRule_0 _ (List.mem_of_getElem? (i := 10) rfl)) (goodIn_c (glX11_readRule_0 _ (List.mem_of_getElem? (i := 11) rfl)) (goodIn_c (glX11_readRule_0 _ (List.mem_of_getElem? (i := 12) rfl)) (goodIn_c (glX11_readRule_0 _ (List.mem_of_getElem? (i := 13) rfl)) (goodIn_c (glX11_readRule_0 _ (List.mem_of_getElem? (i := 14) rfl)) (goodIn_c (glX11_readRule_0 _ (List.mem_of_getElem? (i := 15) rfl)) (goodIn_c (glX11_readRule_0 _ (List.mem_of_getElem? (i := 16) rfl)) (goodIn_c (glX11_readRule_0 _ (List.mem_of_getElem? (i := 17) rfl)) (goodIn_c (glX11_readRule_0 _ (List.mem_of_getElem? (i := 18) rfl)) (goodIn_c (glX11_readRule_0 _ (List.mem_of_getElem? (i := 19) rfl)) (goodIn_c (glX11_readRule_0 _ (List.mem_of_getElem? (i := 20) rfl)) (goodIn_c (glX11_readRule_0 _ (List.mem_of_getElem? (i := 21) rfl)) (goodIn_c (glX11_readRule_0 _ (List.mem_of_getElem? (i := 22) rfl)) (goodIn_c (glX11_readRule_0 _ (List.mem_of_getElem? (i := 23) rfl)) (goodIn_c (glX11_readRule_1 _ (List.mem_of_getElem? (i := 0) rfl)) (goodIn_c (glX11_readRule_1 _ (List.mem_of_getElem? (i := 1) rfl)) (goodIn_c (glX11_readRule_1 _ (List.mem_of_getElem? (i := 2) rfl)) (goodIn_c (glX11_readRule_1 _ (List.mem_of_getElem? (i := 3) rfl)) (goodIn_c (glX11_readRule_0 _ (List.mem_of_getElem? (i := 8) rfl)) (goodIn_c (glX11_readRule_1 _ (List.mem_of_getElem? (i := 4) rfl)) (goodIn_c (glX11_readRule_1 _ (List.mem_of_getElem? (i := 5) rfl)) (goodIn_c (glX11_readRule_1 _ (List.mem_of_getElem? (i := 6) rfl)) (goodIn_c (glX11_readRule_1 _ (List.mem_of_getElem? (i := 7) rfl)) (goodIn_c (glX11_readRule_1 _ (List.mem_of_getElem? (i := 8) rfl)) (goodIn_n))))))))))))))))))))))))) (goodIn_app (goodIn_c (glX11_readRule_1 _ (List.mem_of_getElem? (i := 9) rfl)) (goodIn_c (glX11_readRule_1 _ (List.mem_of_getElem? (i := 10) rfl)) (goodIn_c (glX11_readRule_1 _ (List.mem_of_getElem? (i := 11) rfl)) (goodIn_c (glX11_readRule_1 _ (List.mem_of_getElem? (i := 12) rfl)) (goodIn_c (glX11_readRule_1 _ (List.mem_of_getElem? (i := 13) rfl)) (goodIn_c (glX11_readRule_1 _ (List.mem_of_getElem? (i := 14) rfl)) (goodIn_c (glX11_readRule_1 _ (List.mem_of_getElem? (i := 15) rfl)) (goodIn_c (glX11_readRule_1 _ (List.mem_of_getElem? (i := 16) rfl)) (goodIn_c (glX11_readRule_1 _ (List.mem_of_getElem? (i := 17) rfl)) (goodIn_c (glX11_readRule_1 _ (List.mem_of_getElem? (i := 18) rfl)) (goodIn_c (glX11_readRule_1 _ (List.mem_of_getElem? (i := 19) rfl)) (goodIn_c (glX11_readRule_1 _ (List.mem_of_getElem? (i := 20) rfl)) (goodIn_c (glX11_readRule_1 _ (List.mem_of_getElem? (i := 21) rfl)) (goodIn_c (glX11_readRule_1 _ (List.mem_of_getElem? (i := 22) rfl)) (goodIn_c (glX11_readRule_1 _ (List.mem_of_getElem? (i := 23) rfl)) (goodIn_c (glX11_readRule_2 _ (List.mem_of_getElem? (i := 0) rfl)) (goodIn_c (glX11_readRule_2 _ (List.mem_of_getElem? (i := 1) rfl)) (goodIn_c (glX11_readRule_2 _ (List.mem_of_getElem? (i := 2) rfl)) (goodIn_c (glX11_readRule_2 _ (List.mem_of_getElem? (i := 3) rfl)) (goodIn_c (glX11_readRule_2 _ (List.mem_of_getElem? (i := 4) rfl)) (goodIn_c (glX11_readRule_2 _ (List.mem_of_getElem? (i := 5) rfl)) (goodIn_c (glX11_readRule_2 _ (List.mem_of_getElem? (i := 6) rfl)) (goodIn_c (glX11_readRule_2 _ (List.mem_of_getElem? (i := 7) rfl)) (goodIn_c (glX11_readRule_2 _ (List.mem_of_getElem? (i := 8) rfl)) (goodIn_n))))))))))))))))))))))))) (goodIn_c (glX11_readRule_2 _ (List.mem_of_getElem? (i := 9) rfl)) (goodIn_c (glX11_readRule_2 _ (List.mem_of_getElem? (i := 10) rfl)) (goodIn_c (glX11_readRule_2 _ (List.mem_of_getElem? (i := 11) rfl)) (goodIn_c (glX11_readRule_2 _ (List.mem_of_getElem? (i := 12) rfl)) (goodIn_c (glX11_readRule_2 _ (List.mem_of_getElem? (i := 13) rfl)) (goodIn_c (glX11_readRule_2 _ (List.mem_of_getElem? (i := 14) rfl)) (goodIn_c (glX11_readRule_2 _ (List.mem_of_getElem? (i := 15) rfl)) (goodIn_c (glX11_readRule_2 _ (List.mem_of_getElem? (i := 16) rfl)) (goodIn_c (glX11_readRule_2 _ (List.mem_of_getElem? (i := 17) rfl)) (goodIn_c (glX11_readRule_2 _ (List.mem_of_getElem? (i := 18) rfl)) (goodIn_c (glX11_readRule_2 _ (List.mem_of_getElem? (i := 19) rfl)) (goodIn_c (glX11_readRule_2 _ (List.mem_of_getElem? (i := 20) rfl)) (goodIn_c (glX11_readRule_2 _ (List.mem_of_getElem? (i := 21) rfl)) (goodIn_n)))))))))))))))) (glX11_readRule_7))
set_option maxRecDepth 20000 in
theorem gX11_readRule_X7_takesWord : GoodIn wsX11_readRule (wsV RX11 403 RX7 yX7_takesWord wsX7_takesWord) := goodIn_app (goodIn_c (glX11_readRule_0 _ (List.mem_of_getElem? (i := 5) rfl)) (goodIn_c (glX11_readRule_0 _ (List.mem_of_getElem? (i := 6) rfl)) (goodIn_c (glX11_readRule_0 _ (List.mem_of_getElem? (i := 7) rfl)) (goodIn_c (glX11_readRule_0 _ (List.mem_of_getElem? (i := 8) rfl)) (goodIn_n))))) ggX11_readRule_X7_takesWord
set_option maxRecDepth 20000 in
theorem glX11_readRule_3 : GoodIn wsX11_readRule (wsX11_readRule_r4) := goodIn_sub (fun _ h => List.mem_cons_of_mem _ (List.mem_append_left _ (List.mem_append_left _ (List.mem_append_left _ (List.mem_append_left _ (List.mem_append_left _ (List.mem_append_right _ (List.mem_append_right _ (List.mem_append_right _ (List.mem_append_left _ (h))))))))))) (by decide +kernel)
set_option maxRecDepth 20000 in
theorem glX11_readRule_4 : GoodIn wsX11_readRule (wsX11_readRule_r5) := goodIn_sub (fun _ h => List.mem_cons_of_mem _ (List.mem_append_left _ (List.mem_append_left _ (List.mem_append_left _ (List.mem_append_left _ (List.mem_append_left _ (List.mem_append_right _ (List.mem_append_right _ (List.mem_append_right _ (List.mem_append_right _ (List.mem_append_left _ (h)))))))))))) (by decide +kernel)
set_option maxRecDepth 20000 in
theorem glX11_readRule_6 : GoodIn wsX11_readRule (wsX110) := goodIn_sub (fun _ h => List.mem_cons_of_mem _ (List.mem_append_left _ (List.mem_append_left _ (List.mem_append_left _ (List.mem_append_left _ (List.mem_append_right _ (h))))))) ag_wsX110
set_option maxRecDepth 20000 in
theorem glX11_readRule_8 : GoodIn wsX11_readRule (wsX50) := goodIn_sub (fun _ h => List.mem_cons_of_mem _ (List.mem_append_left _ (List.mem_append_left _ (List.mem_append_right _ (h))))) ag_wsX50
set_option maxRecDepth 20000 in
theorem glX11_readRule_9 : GoodIn wsX11_readRule (wsX80) := goodIn_sub (fun _ h => List.mem_cons_of_mem _ (List.mem_append_left _ (List.mem_append_right _ (h)))) ag_wsX80
set_option maxRecDepth 20000 in
theorem glX11_readRule_10 : GoodIn wsX11_readRule (wsX00) := goodIn_sub (fun _ h => List.mem_cons_of_mem _ (List.mem_append_right _ (h))) ag_wsX00
set_option maxRecDepth 20000 in
theorem ggX11_readRule_X11_readPlace : GoodIn wsX11_readRule wsX11_readPlace := goodIn_c (glX11_readRule_3 _ (List.mem_of_getElem? (i := 2) rfl)) (goodIn_app (goodIn_app (goodIn_app (goodIn_app (goodIn_app (goodIn_app (goodIn_c (glX11_readRule_0 _ (List.mem_of_getElem? (i := 0) rfl)) (goodIn_c (glX11_readRule_0 _ (List.mem_of_getElem? (i := 2) rfl)) (goodIn_c (glX11_readRule_3 _ (List.mem_of_getElem? (i := 3) rfl)) (goodIn_c (glX11_readRule_3 _ (List.mem_of_getElem? (i := 4) rfl)) (goodIn_c (glX11_readRule_3 _ (List.mem_of_getElem? (i := 5) rfl)) (goodIn_c (glX11_readRule_3 _ (List.mem_of_getElem? (i := 6) rfl)) (goodIn_c (glX11_readRule_3 _ (List.mem_of_getElem? (i := 7) rfl)) (goodIn_c (glX11_readRule_3 _ (List.mem_of_getElem? (i := 1) rfl)) (goodIn_c (glX11_readRule_3 _ (List.mem_of_getElem? (i := 8) rfl)) (goodIn_c (glX11_readRule_0 _ (List.mem_of_getElem? (i := 1) rfl)) (goodIn_c (glX11_readRule_3 _ (List.mem_of_getElem? (i := 9) rfl)) (goodIn_c (glX11_readRule_3 _ (List.mem_of_getElem? (i := 10) rfl)) (goodIn_c (glX11_readRule_3 _ (List.mem_of_getElem? (i := 11) rfl)) (goodIn_c (glX11_readRule_3 _ (List.mem_of_getElem? (i := 12) rfl)) (goodIn_c (glX11_readRule_0 _ (List.mem_of_getElem? (i := 8) rfl)) (goodIn_c (glX11_readRule_3 _ (List.mem_of_getElem? (i := 13) rfl)) (goodIn_c (glX11_readRule_3 _ (List.mem_of_getElem? (i := 14) rfl)) (goodIn_c (glX11_readRule_3 _ (List.mem_of_getElem? (i := 15) rfl)) (goodIn_c (glX11_readRule_3 _ (List.mem_of_getElem? (i := 16) rfl)) (goodIn_c (glX11_readRule_3 _ (List.mem_of_getElem? (i := 17) rfl)) (goodIn_c (glX11_readRule_0 _ (List.mem_of_getElem? (i := 10) rfl)) (goodIn_c (glX11_readRule_1 _ (List.mem_of_getElem? (i := 1) rfl)) (goodIn_c (glX11_readRule_1 _ (List.mem_of_getElem? (i := 2) rfl)) (goodIn_c (glX11_readRule_1 _ (List.mem_of_getElem? (i := 3) rfl)) (goodIn_n))))))))))))))))))))))))) (goodIn_app (goodIn_c (glX11_readRule_1 _ (List.mem_of_getElem? (i := 4) rfl)) (goodIn_c (glX11_readRule_0 _ (List.mem_of_getElem? (i := 11) rfl)) (goodIn_c (glX11_readRule_0 _ (List.mem_of_getElem? (i := 12) rfl)) (goodIn_c (glX11_readRule_3 _ (List.mem_of_getElem? (i := 18) rfl)) (goodIn_c (glX11_readRule_3 _ (List.mem_of_getElem? (i := 19) rfl)) (goodIn_c (glX11_readRule_3 _ (List.mem_of_getElem? (i := 20) rfl)) (goodIn_c (glX11_readRule_3 _ (List.mem_of_getElem? (i := 21) rfl)) (goodIn_c (glX11_readRule_3 _ (List.mem_of_getElem? (i := 22) rfl)) (goodIn_c (glX11_readRule_3 _ (List.mem_of_getElem? (i := 23) rfl)) (goodIn_c (glX11_readRule_4 _ (List.mem_of_getElem? (i := 0) rfl)) (goodIn_c (glX11_readRule_4 _ (List.mem_of_getElem? (i := 1) rfl)) (goodIn_c (glX11_readRule_4 _ (List.mem_of_getElem? (i := 2) rfl)) (goodIn_c (glX11_readRule_2 _ (List.mem_of_getElem? (i := 18) rfl)) (goodIn_c (glX11_readRule_2 _ (List.mem_of_getElem? (i := 19) rfl)) (goodIn_c (glX11_readRule_2 _ (List.mem_of_getElem? (i := 20) rfl)) (goodIn_c (glX11_readRule_2 _ (List.mem_of_getElem? (i := 21) rfl)) (goodIn_c (glX11_readRule_4 _ (List.mem_of_getElem? (i := 3) rfl)) (goodIn_c (glX11_readRule_4 _ (List.mem_of_getElem? (i := 4) rfl)) (goodIn_c (glX11_readRule_4 _ (List.mem_of_getElem? (i := 5) rfl)) (goodIn_c (glX11_readRule_4 _ (List.mem_of_getElem? (i := 6) rfl)) (goodIn_c (glX11_readRule_4 _ (List.mem_of_getElem? (i := 7) rfl)) (goodIn_c (glX11_readRule_4 _ (List.mem_of_getElem? (i := 8) rfl)) (goodIn_c (glX11_readRule_4 _ (List.mem_of_getElem? (i := 9) rfl)) (goodIn_c (glX11_readRule_4 _ (List.mem_of_getElem? (i := 10) rfl)) (goodIn_n))))))))))))))))))))))))) (goodIn_app (goodIn_c (glX11_readRule_4 _ (List.mem_of_getElem? (i := 11) rfl)) (goodIn_c (glX11_readRule_4 _ (List.mem_of_getElem? (i := 12) rfl)) (goodIn_c (glX11_readRule_4 _ (List.mem_of_getElem? (i := 13) rfl)) (goodIn_c (glX11_readRule_4 _ (List.mem_of_getElem? (i := 14) rfl)) (goodIn_c (glX11_readRule_4 _ (List.mem_of_getElem? (i := 15) rfl)) (goodIn_c (glX11_readRule_4 _ (List.mem_of_getElem? (i := 16) rfl)) (goodIn_c (glX11_readRule_0 _ (List.mem_of_getElem? (i := 6) rfl)) (goodIn_c (glX11_readRule_0 _ (List.mem_of_getElem? (i := 7) rfl)) (goodIn_c (glX11_readRule_0 _ (List.mem_of_getElem? (i := 9) rfl)) (goodIn_c (glX11_readRule_0 _ (List.mem_of_getElem? (i := 13) rfl)) (goodIn_c (glX11_readRule_0 _ (List.mem_of_getElem? (i := 14) rfl)) (goodIn_c (glX11_readRule_0 _ (List.mem_of_getElem? (i := 15) rfl)) (goodIn_c (glX11_readRule_0 _ (List.mem_of_getElem? (i := 16) rfl)) (goodIn_c (glX11_readRule_0 _ (List.mem_of_getElem? (i := 17) rfl)) (goodIn_c (glX11_readRule_0 _ (List.mem_of_getElem? (i := 18) rfl)) (goodIn_c (glX11_readRule_0 _ (List.mem_of_getElem? (i := 19) rfl)) (goodIn_c (glX11_readRule_0 _ (List.mem_of_getElem? (i := 20) rfl)) (goodIn_c (glX11_readRule_0 _ (List.mem_of_getElem? (i := 21) rfl)) (goodIn_c (glX11_readRule_0 _ (List.mem_of_getElem? (i := 22) rfl)) (goodIn_c (glX11_readRule_0 _ (List.mem_of_getElem? (i := 23) rfl)) (goodIn_c (glX11_readRule_1 _ (List.mem_of_getElem? (i := 0) rfl)) (goodIn_c (glX11_readRule_1 _ (List.mem_of_getElem? (i := 5) rfl)) (goodIn_c (glX11_readRule_1 _ (List.mem_of_getElem? (i := 6) rfl)) (goodIn_c (glX11_readRule_1 _ (List.mem_of_getElem? (i := 7) rfl)) (goodIn_n))))))))))))))))))))))))) (goodIn_app (goodIn_c (glX11_readRule_1 _ (List.mem_of_getElem? (i := 8) rfl)) (goodIn_c (glX11_readRule_1 _ (List.mem_of_getElem? (i := 9) rfl)) (goodIn_c (glX11_readRule_1 _ (List.mem_of_getElem? (i := 10) rfl)) (goodIn_c (glX11_readRule_1 _ (List.mem_of_getElem? (i := 11) rfl)) (goodIn_c (glX11_readRule_1 _ (List.mem_of_getElem? (i := 12) rfl)) (goodIn_c (glX11_readRule_1 _ (List.mem_of_getElem? (i := 13) rfl)) (goodIn_c (glX11_readRule_1 _ (List.mem_of_getElem? (i := 14) rfl)) (goodIn_c (glX11_readRule_1 _ (List.mem_of_getElem? (i := 15) rfl)) (goodIn_c (glX11_readRule_1 _ (List.mem_of_getElem? (i := 16) rfl)) (goodIn_c (glX11_readRule_1 _ (List.mem_of_getElem? (i := 17) rfl)) (goodIn_c (glX11_readRule_1 _ (List.mem_of_getElem? (i := 18) rfl)) (goodIn_c (glX11_readRule_1 _ (List.mem_of_getElem? (i := 19) rfl)) (goodIn_c (glX11_readRule_1 _ (List.mem_of_getElem? (i := 20) rfl)) (goodIn_c (glX11_readRule_1 _ (List.mem_of_getElem? (i := 21) rfl)) (goodIn_c (glX11_readRule_1 _ (List.mem_of_getElem? (i := 22) rfl)) (goodIn_c (glX11_readRule_1 _ (List.mem_of_getElem? (i := 23) rfl)) (goodIn_c (glX11_readRule_2 _ (List.mem_of_getElem? (i := 0) rfl)) (goodIn_c (glX11_readRule_2 _ (List.mem_of_getElem? (i := 1) rfl)) (goodIn_c (glX11_readRule_2 _ (List.mem_of_getElem? (i := 2) rfl)) (goodIn_c (glX11_readRule_2 _ (List.mem_of_getElem? (i := 3) rfl)) (goodIn_c (glX11_readRule_2 _ (List.mem_of_getElem? (i := 4) rfl)) (goodIn_c (glX11_readRule_2 _ (List.mem_of_getElem? (i := 5) rfl)) (goodIn_c (glX11_readRule_2 _ (List.mem_of_getElem? (i := 6) rfl)) (goodIn_c (glX11_readRule_2 _ (List.mem_of_getElem? (i := 7) rfl)) (goodIn_n))))))))))))))))))))))))) (goodIn_c (glX11_readRule_2 _ (List.mem_of_getElem? (i := 8) rfl)) (goodIn_c (glX11_readRule_2 _ (List.mem_of_getElem? (i := 9) rfl)) (goodIn_c (glX11_readRule_2 _ (List.mem_of_getElem? (i := 10) rfl)) (goodIn_c (glX11_readRule_2 _ (List.mem_of_getElem? (i := 11) rfl)) (goodIn_c (glX11_readRule_2 _ (List.mem_of_getElem? (i := 12) rfl)) (goodIn_c (glX11_readRule_2 _ (List.mem_of_getElem? (i := 13) rfl)) (goodIn_c (glX11_readRule_2 _ (List.mem_of_getElem? (i := 14) rfl)) (goodIn_c (glX11_readRule_2 _ (List.mem_of_getElem? (i := 15) rfl)) (goodIn_c (glX11_readRule_2 _ (List.mem_of_getElem? (i := 16) rfl)) (goodIn_c (glX11_readRule_2 _ (List.mem_of_getElem? (i := 17) rfl)) (goodIn_n))))))))))))))) (glX11_readRule_6)) (glX11_readRule_8)) (glX11_readRule_9)) (glX11_readRule_7)) (glX11_readRule_10))
set_option maxRecDepth 20000 in
theorem gX11_readRule_X11_readPlace : GoodIn wsX11_readRule (wsV RX11 407 RX11 yX11_readPlace wsX11_readPlace) := goodIn_app (goodIn_c (glX11_readRule_2 _ (List.mem_of_getElem? (i := 22) rfl)) (goodIn_c (glX11_readRule_2 _ (List.mem_of_getElem? (i := 23) rfl)) (goodIn_c (glX11_readRule_3 _ (List.mem_of_getElem? (i := 0) rfl)) (goodIn_c (glX11_readRule_3 _ (List.mem_of_getElem? (i := 1) rfl)) (goodIn_n))))) ggX11_readRule_X11_readPlace
set_option maxRecDepth 20000 in
theorem ggX11_readRule_X11_readKind : GoodIn wsX11_readRule wsX11_readKind := goodIn_c (glX11_readRule_4 _ (List.mem_of_getElem? (i := 20) rfl)) (goodIn_app (goodIn_app (goodIn_app (goodIn_c (glX11_readRule_0 _ (List.mem_of_getElem? (i := 0) rfl)) (goodIn_c (glX11_readRule_0 _ (List.mem_of_getElem? (i := 5) rfl)) (goodIn_c (glX11_readRule_0 _ (List.mem_of_getElem? (i := 6) rfl)) (goodIn_c (glX11_readRule_0 _ (List.mem_of_getElem? (i := 7) rfl)) (goodIn_c (glX11_readRule_0 _ (List.mem_of_getElem? (i := 8) rfl)) (goodIn_c (glX11_readRule_0 _ (List.mem_of_getElem? (i := 9) rfl)) (goodIn_c (glX11_readRule_0 _ (List.mem_of_getElem? (i := 10) rfl)) (goodIn_c (glX11_readRule_0 _ (List.mem_of_getElem? (i := 11) rfl)) (goodIn_c (glX11_readRule_0 _ (List.mem_of_getElem? (i := 12) rfl)) (goodIn_c (glX11_readRule_0 _ (List.mem_of_getElem? (i := 13) rfl)) (goodIn_c (glX11_readRule_0 _ (List.mem_of_getElem? (i := 14) rfl)) (goodIn_c (glX11_readRule_0 _ (List.mem_of_getElem? (i := 15) rfl)) (goodIn_c (glX11_readRule_0 _ (List.mem_of_getElem? (i := 16) rfl)) (goodIn_c (glX11_readRule_0 _ (List.mem_of_getElem? (i := 17) rfl)) (goodIn_c (glX11_readRule_0 _ (List.mem_of_getElem? (i := 18) rfl)) (goodIn_c (glX11_readRule_0 _ (List.mem_of_getElem? (i := 19) rfl)) (goodIn_c (glX11_readRule_0 _ (List.mem_of_getElem? (i := 20) rfl)) (goodIn_c (glX11_readRule_0 _ (List.mem_of_getElem? (i := 21) rfl)) (goodIn_c (glX11_readRule_0 _ (List.mem_of_getElem? (i := 22) rfl)) (goodIn_c (glX11_readRule_0 _ (List.mem_of_getElem? (i := 23) rfl)) (goodIn_c (glX11_readRule_1 _ (List.mem_of_getElem? (i := 0) rfl)) (goodIn_c (glX11_readRule_1 _ (List.mem_of_getElem? (i := 1) rfl)) (goodIn_c (glX11_readRule_1 _ (List.mem_of_getElem? (i := 2) rfl)) (goodIn_c (glX11_readRule_1 _ (List.mem_of_getElem? (i := 3) rfl)) (goodIn_n))))))))))))))))))))))))) (goodIn_app (goodIn_c (glX11_readRule_1 _ (List.mem_of_getElem? (i := 4) rfl)) (goodIn_c (glX11_readRule_1 _ (List.mem_of_getElem? (i := 5) rfl)) (goodIn_c (glX11_readRule_1 _ (List.mem_of_getElem? (i := 6) rfl)) (goodIn_c (glX11_readRule_1 _ (List.mem_of_getElem? (i := 7) rfl)) (goodIn_c (glX11_readRule_1 _ (List.mem_of_getElem? (i := 8) rfl)) (goodIn_c (glX11_readRule_1 _ (List.mem_of_getElem? (i := 9) rfl)) (goodIn_c (glX11_readRule_1 _ (List.mem_of_getElem? (i := 10) rfl)) (goodIn_c (glX11_readRule_1 _ (List.mem_of_getElem? (i := 11) rfl)) (goodIn_c (glX11_readRule_1 _ (List.mem_of_getElem? (i := 12) rfl)) (goodIn_c (glX11_readRule_1 _ (List.mem_of_getElem? (i := 13) rfl)) (goodIn_c (glX11_readRule_1 _ (List.mem_of_getElem? (i := 14) rfl)) (goodIn_c (glX11_readRule_1 _ (List.mem_of_getElem? (i := 15) rfl)) (goodIn_c (glX11_readRule_1 _ (List.mem_of_getElem? (i := 16) rfl)) (goodIn_c (glX11_readRule_1 _ (List.mem_of_getElem? (i := 17) rfl)) (goodIn_c (glX11_readRule_1 _ (List.mem_of_getElem? (i := 18) rfl)) (goodIn_c (glX11_readRule_1 _ (List.mem_of_getElem? (i := 19) rfl)) (goodIn_c (glX11_readRule_1 _ (List.mem_of_getElem? (i := 20) rfl)) (goodIn_c (glX11_readRule_1 _ (List.mem_of_getElem? (i := 21) rfl)) (goodIn_c (glX11_readRule_1 _ (List.mem_of_getElem? (i := 22) rfl)) (goodIn_c (glX11_readRule_1 _ (List.mem_of_getElem? (i := 23) rfl)) (goodIn_c (glX11_readRule_2 _ (List.mem_of_getElem? (i := 0) rfl)) (goodIn_c (glX11_readRule_2 _ (List.mem_of_getElem? (i := 1) rfl)) (goodIn_c (glX11_readRule_2 _ (List.mem_of_getElem? (i := 2) rfl)) (goodIn_c (glX11_readRule_2 _ (List.mem_of_getElem? (i := 3) rfl)) (goodIn_n))))))))))))))))))))))))) (goodIn_c (glX11_readRule_2 _ (List.mem_of_getElem? (i := 4) rfl)) (goodIn_c (glX11_readRule_2 _ (List.mem_of_getElem? (i := 5) rfl)) (goodIn_c (glX11_readRule_2 _ (List.mem_of_getElem? (i := 6) rfl)) (goodIn_c (glX11_readRule_2 _ (List.mem_of_getElem? (i := 7) rfl)) (goodIn_c (glX11_readRule_2 _ (List.mem_of_getElem? (i := 8) rfl)) (goodIn_c (glX11_readRule_2 _ (List.mem_of_getElem? (i := 9) rfl)) (goodIn_c (glX11_readRule_2 _ (List.mem_of_getElem? (i := 10) rfl)) (goodIn_c (glX11_readRule_2 _ (List.mem_of_getElem? (i := 11) rfl)) (goodIn_c (glX11_readRule_2 _ (List.mem_of_getElem? (i := 12) rfl)) (goodIn_c (glX11_readRule_2 _ (List.mem_of_getElem? (i := 13) rfl)) (goodIn_c (glX11_readRule_2 _ (List.mem_of_getElem? (i := 14) rfl)) (goodIn_c (glX11_readRule_2 _ (List.mem_of_getElem? (i := 15) rfl)) (goodIn_c (glX11_readRule_2 _ (List.mem_of_getElem? (i := 16) rfl)) (goodIn_c (glX11_readRule_2 _ (List.mem_of_getElem? (i := 17) rfl)) (goodIn_c (glX11_readRule_2 _ (List.mem_of_getElem? (i := 18) rfl)) (goodIn_c (glX11_readRule_2 _ (List.mem_of_getElem? (i := 19) rfl)) (goodIn_c (glX11_readRule_2 _ (List.mem_of_getElem? (i := 20) rfl)) (goodIn_c (glX11_readRule_2 _ (List.mem_of_getElem? (i := 21) rfl)) (goodIn_n))))))))))))))))))))) (glX11_readRule_6)) (glX11_readRule_7))
set_option maxRecDepth 20000 in
theorem gX11_readRule_X11_readKind : GoodIn wsX11_readRule (wsV RX11 410 RX11 yX11_readKind wsX11_readKind) := goodIn_app (goodIn_c (glX11_readRule_4 _ (List.mem_of_getElem? (i := 17) rfl)) (goodIn_c (glX11_readRule_4 _ (List.mem_of_getElem? (i := 18) rfl)) (goodIn_c (glX11_readRule_4 _ (List.mem_of_getElem? (i := 19) rfl)) (goodIn_c (glX11_readRule_3 _ (List.mem_of_getElem? (i := 1) rfl)) (goodIn_n))))) ggX11_readRule_X11_readKind
set_option maxRecDepth 20000 in
theorem ggX11_readRule_X7_refuse : GoodIn wsX11_readRule wsX7_refuse := goodIn_c (glX11_readRule_4 _ (List.mem_of_getElem? (i := 1) rfl)) (goodIn_app (goodIn_c (glX11_readRule_4 _ (List.mem_of_getElem? (i := 2) rfl)) (goodIn_n)) (glX11_readRule_7))
set_option maxRecDepth 20000 in
theorem gX11_readRule_X7_refuse : GoodIn wsX11_readRule (wsV RX11 416 RX7 yX7_refuse wsX7_refuse) := goodIn_app (goodIn_c (glX11_readRule_4 _ (List.mem_of_getElem? (i := 11) rfl)) (goodIn_c (glX11_readRule_3 _ (List.mem_of_getElem? (i := 23) rfl)) (goodIn_c (glX11_readRule_4 _ (List.mem_of_getElem? (i := 0) rfl)) (goodIn_c (glX11_readRule_0 _ (List.mem_of_getElem? (i := 8) rfl)) (goodIn_n))))) ggX11_readRule_X7_refuse
set_option maxRecDepth 20000 in
theorem glX11_readRule_5 : GoodIn wsX11_readRule (wsX11_readRule_r6) := goodIn_sub (fun _ h => List.mem_cons_of_mem _ (List.mem_append_left _ (List.mem_append_left _ (List.mem_append_left _ (List.mem_append_left _ (List.mem_append_left _ (List.mem_append_right _ (List.mem_append_right _ (List.mem_append_right _ (List.mem_append_right _ (List.mem_append_right _ (h)))))))))))) (by decide +kernel)
set_option maxRecDepth 20000 in
theorem ggX11_readRule_X7_number : GoodIn wsX11_readRule wsX7_number := goodIn_c (glX11_readRule_5 _ (List.mem_of_getElem? (i := 0) rfl)) (goodIn_app (goodIn_app (goodIn_c (glX11_readRule_3 _ (List.mem_of_getElem? (i := 14) rfl)) (goodIn_c (glX11_readRule_3 _ (List.mem_of_getElem? (i := 15) rfl)) (goodIn_c (glX11_readRule_3 _ (List.mem_of_getElem? (i := 16) rfl)) (goodIn_c (glX11_readRule_0 _ (List.mem_of_getElem? (i := 8) rfl)) (goodIn_c (glX11_readRule_3 _ (List.mem_of_getElem? (i := 17) rfl)) (goodIn_c (glX11_readRule_0 _ (List.mem_of_getElem? (i := 10) rfl)) (goodIn_c (glX11_readRule_1 _ (List.mem_of_getElem? (i := 1) rfl)) (goodIn_c (glX11_readRule_1 _ (List.mem_of_getElem? (i := 2) rfl)) (goodIn_c (glX11_readRule_1 _ (List.mem_of_getElem? (i := 3) rfl)) (goodIn_c (glX11_readRule_1 _ (List.mem_of_getElem? (i := 4) rfl)) (goodIn_c (glX11_readRule_0 _ (List.mem_of_getElem? (i := 11) rfl)) (goodIn_c (glX11_readRule_0 _ (List.mem_of_getElem? (i := 12) rfl)) (goodIn_c (glX11_readRule_3 _ (List.mem_of_getElem? (i := 18) rfl)) (goodIn_c (glX11_readRule_3 _ (List.mem_of_getElem? (i := 19) rfl)) (goodIn_c (glX11_readRule_3 _ (List.mem_of_getElem? (i := 20) rfl)) (goodIn_c (glX11_readRule_3 _ (List.mem_of_getElem? (i := 21) rfl)) (goodIn_c (glX11_readRule_3 _ (List.mem_of_getElem? (i := 22) rfl)) (goodIn_c (glX11_readRule_3 _ (List.mem_of_getElem? (i := 23) rfl)) (goodIn_c (glX11_readRule_4 _ (List.mem_of_getElem? (i := 0) rfl)) (goodIn_c (glX11_readRule_4 _ (List.mem_of_getElem? (i := 1) rfl)) (goodIn_c (glX11_readRule_4 _ (List.mem_of_getElem? (i := 2) rfl)) (goodIn_c (glX11_readRule_2 _ (List.mem_of_getElem? (i := 18) rfl)) (goodIn_c (glX11_readRule_2 _ (List.mem_of_getElem? (i := 19) rfl)) (goodIn_c (glX11_readRule_2 _ (List.mem_of_getElem? (i := 20) rfl)) (goodIn_n))))))))))))))))))))))))) (goodIn_c (glX11_readRule_2 _ (List.mem_of_getElem? (i := 21) rfl)) (goodIn_n))) (glX11_readRule_7))
set_option maxRecDepth 20000 in
theorem gX11_readRule_X7_number : GoodIn wsX11_readRule (wsV RX11 422 RX7 yX7_number wsX7_number) := goodIn_app (goodIn_c (glX11_readRule_4 _ (List.mem_of_getElem? (i := 21) rfl)) (goodIn_c (glX11_readRule_4 _ (List.mem_of_getElem? (i := 22) rfl)) (goodIn_c (glX11_readRule_4 _ (List.mem_of_getElem? (i := 23) rfl)) (goodIn_c (glX11_readRule_0 _ (List.mem_of_getElem? (i := 8) rfl)) (goodIn_n))))) ggX11_readRule_X7_number
theorem dX11_readRule_0 : decode cX11_readRule 0 = .ok (.aload_n 0, 1) := qdE42 (by decide +kernel)
theorem dX11_readRule_1 : decode cX11_readRule 1 = .ok (.getfield 10, 3) := qdE180 (by decide +kernel)
theorem dX11_readRule_4 : decode cX11_readRule 4 = .ok (.ldc_w 401, 3) := qdE19 (by decide +kernel)
theorem dX11_readRule_7 : decode cX11_readRule 7 = .ok (.invokevirtual 403, 3) := qdE182 (by decide +kernel)
theorem dX11_readRule_10 : decode cX11_readRule 10 = .ok (.ifCond .eq 8, 3) := qdE153 (by decide +kernel)
theorem dX11_readRule_13 : decode cX11_readRule 13 = .ok (.aload_n 0, 1) := qdE42 (by decide +kernel)
theorem dX11_readRule_14 : decode cX11_readRule 14 = .ok (.invokevirtual 407, 3) := qdE182 (by decide +kernel)
theorem dX11_readRule_17 : decode cX11_readRule 17 = .ok (.return_, 1) := qdE177 (by decide +kernel)
theorem dX11_readRule_18 : decode cX11_readRule 18 = .ok (.aload_n 0, 1) := qdE42 (by decide +kernel)
theorem dX11_readRule_19 : decode cX11_readRule 19 = .ok (.invokevirtual 410, 3) := qdE182 (by decide +kernel)
theorem dX11_readRule_22 : decode cX11_readRule 22 = .ok (.istore_n 1, 1) := qdE60 (by decide +kernel)
theorem dX11_readRule_23 : decode cX11_readRule 23 = .ok (.iload_n 1, 1) := qdE27 (by decide +kernel)
theorem dX11_readRule_24 : decode cX11_readRule 24 = .ok (.iconst (-1), 1) := qdE2 (by decide +kernel)
theorem dX11_readRule_25 : decode cX11_readRule 25 = .ok (.if_icmp .ne 20, 3) := qdE160 (by decide +kernel)
theorem dX11_readRule_28 : decode cX11_readRule 28 = .ok (.aload_n 0, 1) := qdE42 (by decide +kernel)
theorem dX11_readRule_29 : decode cX11_readRule 29 = .ok (.getfield 10, 3) := qdE180 (by decide +kernel)
theorem dX11_readRule_32 : decode cX11_readRule 32 = .ok (.aload_n 0, 1) := qdE42 (by decide +kernel)
theorem dX11_readRule_33 : decode cX11_readRule 33 = .ok (.getfield 10, 3) := qdE180 (by decide +kernel)
theorem dX11_readRule_36 : decode cX11_readRule 36 = .ok (.getfield 413, 3) := qdE180 (by decide +kernel)
theorem dX11_readRule_39 : decode cX11_readRule 39 = .ok (.invokevirtual 416, 3) := qdE182 (by decide +kernel)
theorem dX11_readRule_42 : decode cX11_readRule 42 = .ok (.goto 25, 3) := qdE167 (by decide +kernel)
theorem dX11_readRule_45 : decode cX11_readRule 45 = .ok (.aload_n 0, 1) := qdE42 (by decide +kernel)
theorem dX11_readRule_46 : decode cX11_readRule 46 = .ok (.getfield 37, 3) := qdE180 (by decide +kernel)
theorem dX11_readRule_49 : decode cX11_readRule 49 = .ok (.getfield 174, 3) := qdE180 (by decide +kernel)
theorem dX11_readRule_52 : decode cX11_readRule 52 = .ok (.iload_n 1, 1) := qdE27 (by decide +kernel)
theorem dX11_readRule_53 : decode cX11_readRule 53 = .ok (.aload_n 0, 1) := qdE42 (by decide +kernel)
theorem dX11_readRule_54 : decode cX11_readRule 54 = .ok (.getfield 10, 3) := qdE180 (by decide +kernel)
theorem dX11_readRule_57 : decode cX11_readRule 57 = .ok (.iconst 0, 1) := qdE3 (by decide +kernel)
theorem dX11_readRule_58 : decode cX11_readRule 58 = .ok (.getstatic 419, 3) := qdE178 (by decide +kernel)
theorem dX11_readRule_61 : decode cX11_readRule 61 = .ok (.iload_n 1, 1) := qdE27 (by decide +kernel)
theorem dX11_readRule_62 : decode cX11_readRule 62 = .ok (.iaload, 1) := qdE46 (by decide +kernel)
theorem dX11_readRule_63 : decode cX11_readRule 63 = .ok (.invokevirtual 422, 3) := qdE182 (by decide +kernel)
theorem dX11_readRule_66 : decode cX11_readRule 66 = .ok (.iastore, 1) := qdE79 (by decide +kernel)
theorem dX11_readRule_67 : decode cX11_readRule 67 = .ok (.return_, 1) := qdE177 (by decide +kernel)
set_option maxRecDepth 20000 in
theorem glX11_readKind_0 : GoodIn wsX11_readKind (wsX11_readKind_r1) := goodIn_sub (fun _ h => List.mem_cons_of_mem _ (List.mem_append_left _ (List.mem_append_left _ (List.mem_append_left _ (h))))) (by decide +kernel)
set_option maxRecDepth 20000 in
theorem glX11_readKind_1 : GoodIn wsX11_readKind (wsX11_readKind_r2) := goodIn_sub (fun _ h => List.mem_cons_of_mem _ (List.mem_append_left _ (List.mem_append_left _ (List.mem_append_right _ (List.mem_append_left _ (h)))))) (by decide +kernel)
set_option maxRecDepth 20000 in
theorem glX11_readKind_2 : GoodIn wsX11_readKind (wsX11_readKind_r3) := goodIn_sub (fun _ h => List.mem_cons_of_mem _ (List.mem_append_left _ (List.mem_append_left _ (List.mem_append_right _ (List.mem_append_right _ (h)))))) (by decide +kernel)
set_option maxRecDepth 20000 in
theorem glX11_readKind_4 : GoodIn wsX11_readKind (wsX70) := goodIn_sub (fun _ h => List.mem_cons_of_mem _ (List.mem_append_right _ (h))) ag_wsX70
set_option maxRecDepth 20000 in
theorem ggX11_readKind_X7_takesWord : GoodIn wsX11_readKind wsX7_takesWord := goodIn_c (glX11_readKind_0 _ (List.mem_of_getElem? (i := 5) rfl)) (goodIn_app (goodIn_app (goodIn_c (glX11_readKind_0 _ (List.mem_of_getElem? (i := 6) rfl)) (goodIn_c (glX11_readKind_0 _ (List.mem_of_getElem? (i := 7) rfl)) (goodIn_c (glX11_readKind_0 _ (List.mem_of_getElem? (i := 8) rfl)) (goodIn_c (glX11_readKind_0 _ (List.mem_of_getElem? (i := 9) rfl)) (goodIn_c (glX11_readKind_0 _ (List.mem_of_getElem? (i := 10) rfl)) (goodIn_c (glX11_readKind_0 _ (List.mem_of_getElem? (i := 11) rfl)) (goodIn_c (glX11_readKind_0 _ (List.mem_of_getElem? (i := 12) rfl)) (goodIn_c (glX11_readKind_0 _ (List.mem_of_getElem? (i := 13) rfl)) (goodIn_c (glX11_readKind_0 _ (List.mem_of_getElem? (i := 14) rfl)) (goodIn_c (glX11_readKind_0 _ (List.mem_of_getElem? (i := 15) rfl)) (goodIn_c (glX11_readKind_0 _ (List.mem_of_getElem? (i := 16) rfl)) (goodIn_c (glX11_readKind_0 _ (List.mem_of_getElem? (i := 17) rfl)) (goodIn_c (glX11_readKind_0 _ (List.mem_of_getElem? (i := 18) rfl)) (goodIn_c (glX11_readKind_0 _ (List.mem_of_getElem? (i := 19) rfl)) (goodIn_c (glX11_readKind_0 _ (List.mem_of_getElem? (i := 20) rfl)) (goodIn_c (glX11_readKind_0 _ (List.mem_of_getElem? (i := 21) rfl)) (goodIn_c (glX11_readKind_0 _ (List.mem_of_getElem? (i := 22) rfl)) (goodIn_c (glX11_readKind_0 _ (List.mem_of_getElem? (i := 23) rfl)) (goodIn_c (glX11_readKind_0 _ (List.mem_of_getElem? (i := 4) rfl)) (goodIn_c (glX11_readKind_1 _ (List.mem_of_getElem? (i := 0) rfl)) (goodIn_c (glX11_readKind_1 _ (List.mem_of_getElem? (i := 1) rfl)) (goodIn_c (glX11_readKind_1 _ (List.mem_of_getElem? (i := 2) rfl)) (goodIn_c (glX11_readKind_1 _ (List.mem_of_getElem? (i := 3) rfl)) (goodIn_c (glX11_readKind_1 _ (List.mem_of_getElem? (i := 4) rfl)) (goodIn_n))))))))))))))))))))))))) (goodIn_app (goodIn_c (glX11_readKind_1 _ (List.mem_of_getElem? (i := 5) rfl)) (goodIn_c (glX11_readKind_1 _ (List.mem_of_getElem? (i := 6) rfl)) (goodIn_c (glX11_readKind_1 _ (List.mem_of_getElem? (i := 7) rfl)) (goodIn_c (glX11_readKind_1 _ (List.mem_of_getElem? (i := 8) rfl)) (goodIn_c (glX11_readKind_1 _ (List.mem_of_getElem? (i := 9) rfl)) (goodIn_c (glX11_readKind_1 _ (List.mem_of_getElem? (i := 10) rfl)) (goodIn_c (glX11_readKind_1 _ (List.mem_of_getElem? (i := 11) rfl)) (goodIn_c (glX11_readKind_1 _ (List.mem_of_getElem? (i := 12) rfl)) (goodIn_c (glX11_readKind_1 _ (List.mem_of_getElem? (i := 13) rfl)) (goodIn_c (glX11_readKind_1 _ (List.mem_of_getElem? (i := 14) rfl)) (goodIn_c (glX11_readKind_1 _ (List.mem_of_getElem? (i := 15) rfl)) (goodIn_c (glX11_readKind_1 _ (List.mem_of_getElem? (i := 16) rfl)) (goodIn_c (glX11_readKind_1 _ (List.mem_of_getElem? (i := 17) rfl)) (goodIn_c (glX11_readKind_1 _ (List.mem_of_getElem? (i := 18) rfl)) (goodIn_c (glX11_readKind_1 _ (List.mem_of_getElem? (i := 19) rfl)) (goodIn_c (glX11_readKind_1 _ (List.mem_of_getElem? (i := 20) rfl)) (goodIn_c (glX11_readKind_1 _ (List.mem_of_getElem? (i := 21) rfl)) (goodIn_c (glX11_readKind_1 _ (List.mem_of_getElem? (i := 22) rfl)) (goodIn_c (glX11_readKind_1 _ (List.mem_of_getElem? (i := 23) rfl)) (goodIn_c (glX11_readKind_2 _ (List.mem_of_getElem? (i := 0) rfl)) (goodIn_c (glX11_readKind_2 _ (List.mem_of_getElem? (i := 1) rfl)) (goodIn_c (glX11_readKind_2 _ (List.mem_of_getElem? (i := 2) rfl)) (goodIn_c (glX11_readKind_2 _ (List.mem_of_getElem? (i := 3) rfl)) (goodIn_c (glX11_readKind_2 _ (List.mem_of_getElem? (i := 4) rfl)) (goodIn_n))))))))))))))))))))))))) (goodIn_c (glX11_readKind_2 _ (List.mem_of_getElem? (i := 5) rfl)) (goodIn_c (glX11_readKind_2 _ (List.mem_of_getElem? (i := 6) rfl)) (goodIn_c (glX11_readKind_2 _ (List.mem_of_getElem? (i := 7) rfl)) (goodIn_c (glX11_readKind_2 _ (List.mem_of_getElem? (i := 8) rfl)) (goodIn_c (glX11_readKind_2 _ (List.mem_of_getElem? (i := 9) rfl)) (goodIn_c (glX11_readKind_2 _ (List.mem_of_getElem? (i := 10) rfl)) (goodIn_c (glX11_readKind_2 _ (List.mem_of_getElem? (i := 11) rfl)) (goodIn_c (glX11_readKind_2 _ (List.mem_of_getElem? (i := 12) rfl)) (goodIn_c (glX11_readKind_2 _ (List.mem_of_getElem? (i := 13) rfl)) (goodIn_c (glX11_readKind_2 _ (List.mem_of_getElem? (i := 14) rfl)) (goodIn_c (glX11_readKind_2 _ (List.mem_of_getElem? (i := 15) rfl)) (goodIn_c (glX11_readKind_2 _ (List.mem_of_getElem? (i := 16) rfl)) (goodIn_c (glX11_readKind_2 _ (List.mem_of_getElem? (i := 17) rfl)) (goodIn_n)))))))))))))))) (glX11_readKind_4))
set_option maxRecDepth 20000 in
theorem gX11_readKind_X7_takesWord : GoodIn wsX11_readKind (wsV RX11 403 RX7 yX7_takesWord wsX7_takesWord) := goodIn_app (goodIn_c (glX11_readKind_0 _ (List.mem_of_getElem? (i := 1) rfl)) (goodIn_c (glX11_readKind_0 _ (List.mem_of_getElem? (i := 2) rfl)) (goodIn_c (glX11_readKind_0 _ (List.mem_of_getElem? (i := 3) rfl)) (goodIn_c (glX11_readKind_0 _ (List.mem_of_getElem? (i := 4) rfl)) (goodIn_n))))) ggX11_readKind_X7_takesWord
theorem dX11_readKind_0 : decode cX11_readKind 0 = .ok (.aload_n 0, 1) := qdE42 (by decide +kernel)
theorem dX11_readKind_1 : decode cX11_readKind 1 = .ok (.getfield 10, 3) := qdE180 (by decide +kernel)
theorem dX11_readKind_4 : decode cX11_readKind 4 = .ok (.ldc_w 424, 3) := qdE19 (by decide +kernel)
theorem dX11_readKind_7 : decode cX11_readKind 7 = .ok (.invokevirtual 403, 3) := qdE182 (by decide +kernel)
theorem dX11_readKind_10 : decode cX11_readKind 10 = .ok (.ifCond .eq 5, 3) := qdE153 (by decide +kernel)
theorem dX11_readKind_13 : decode cX11_readKind 13 = .ok (.iconst 0, 1) := qdE3 (by decide +kernel)
theorem dX11_readKind_14 : decode cX11_readKind 14 = .ok (.ireturn, 1) := qdE172 (by decide +kernel)
theorem dX11_readKind_15 : decode cX11_readKind 15 = .ok (.aload_n 0, 1) := qdE42 (by decide +kernel)
theorem dX11_readKind_16 : decode cX11_readKind 16 = .ok (.getfield 10, 3) := qdE180 (by decide +kernel)
theorem dX11_readKind_19 : decode cX11_readKind 19 = .ok (.ldc_w 426, 3) := qdE19 (by decide +kernel)
theorem dX11_readKind_22 : decode cX11_readKind 22 = .ok (.invokevirtual 403, 3) := qdE182 (by decide +kernel)
theorem dX11_readKind_25 : decode cX11_readKind 25 = .ok (.ifCond .eq 5, 3) := qdE153 (by decide +kernel)
theorem dX11_readKind_28 : decode cX11_readKind 28 = .ok (.iconst 1, 1) := qdE4 (by decide +kernel)
theorem dX11_readKind_29 : decode cX11_readKind 29 = .ok (.ireturn, 1) := qdE172 (by decide +kernel)
theorem dX11_readKind_30 : decode cX11_readKind 30 = .ok (.aload_n 0, 1) := qdE42 (by decide +kernel)
theorem dX11_readKind_31 : decode cX11_readKind 31 = .ok (.getfield 10, 3) := qdE180 (by decide +kernel)
theorem dX11_readKind_34 : decode cX11_readKind 34 = .ok (.ldc_w 427, 3) := qdE19 (by decide +kernel)
theorem dX11_readKind_37 : decode cX11_readKind 37 = .ok (.invokevirtual 403, 3) := qdE182 (by decide +kernel)
theorem dX11_readKind_40 : decode cX11_readKind 40 = .ok (.ifCond .eq 5, 3) := qdE153 (by decide +kernel)
theorem dX11_readKind_43 : decode cX11_readKind 43 = .ok (.iconst 2, 1) := qdE5 (by decide +kernel)
theorem dX11_readKind_44 : decode cX11_readKind 44 = .ok (.ireturn, 1) := qdE172 (by decide +kernel)
theorem dX11_readKind_45 : decode cX11_readKind 45 = .ok (.aload_n 0, 1) := qdE42 (by decide +kernel)
theorem dX11_readKind_46 : decode cX11_readKind 46 = .ok (.getfield 10, 3) := qdE180 (by decide +kernel)
theorem dX11_readKind_49 : decode cX11_readKind 49 = .ok (.ldc_w 429, 3) := qdE19 (by decide +kernel)
theorem dX11_readKind_52 : decode cX11_readKind 52 = .ok (.invokevirtual 403, 3) := qdE182 (by decide +kernel)
theorem dX11_readKind_55 : decode cX11_readKind 55 = .ok (.ifCond .eq 7, 3) := qdE153 (by decide +kernel)
theorem dX11_readKind_58 : decode cX11_readKind 58 = .ok (.iconst 3, 1) := qdE6 (by decide +kernel)
theorem dX11_readKind_59 : decode cX11_readKind 59 = .ok (.goto 4, 3) := qdE167 (by decide +kernel)
theorem dX11_readKind_62 : decode cX11_readKind 62 = .ok (.iconst (-1), 1) := qdE2 (by decide +kernel)
theorem dX11_readKind_63 : decode cX11_readKind 63 = .ok (.ireturn, 1) := qdE172 (by decide +kernel)
set_option maxRecDepth 20000 in
theorem glX11_readPlace_0 : GoodIn wsX11_readPlace (wsX11_readPlace_r1) := goodIn_sub (fun _ h => List.mem_cons_of_mem _ (List.mem_append_left _ (List.mem_append_left _ (List.mem_append_left _ (List.mem_append_left _ (List.mem_append_left _ (List.mem_append_left _ (h)))))))) (by decide +kernel)
set_option maxRecDepth 20000 in
theorem glX11_readPlace_1 : GoodIn wsX11_readPlace (wsX11_readPlace_r2) := goodIn_sub (fun _ h => List.mem_cons_of_mem _ (List.mem_append_left _ (List.mem_append_left _ (List.mem_append_left _ (List.mem_append_left _ (List.mem_append_left _ (List.mem_append_right _ (List.mem_append_left _ (h))))))))) (by decide +kernel)
set_option maxRecDepth 20000 in
theorem glX11_readPlace_2 : GoodIn wsX11_readPlace (wsX11_readPlace_r3) := goodIn_sub (fun _ h => List.mem_cons_of_mem _ (List.mem_append_left _ (List.mem_append_left _ (List.mem_append_left _ (List.mem_append_left _ (List.mem_append_left _ (List.mem_append_right _ (List.mem_append_right _ (List.mem_append_left _ (h)))))))))) (by decide +kernel)
set_option maxRecDepth 20000 in
theorem glX11_readPlace_5 : GoodIn wsX11_readPlace (wsX110) := goodIn_sub (fun _ h => List.mem_cons_of_mem _ (List.mem_append_left _ (List.mem_append_left _ (List.mem_append_left _ (List.mem_append_left _ (List.mem_append_right _ (h))))))) ag_wsX110
set_option maxRecDepth 20000 in
theorem glX11_readPlace_8 : GoodIn wsX11_readPlace (wsX70) := goodIn_sub (fun _ h => List.mem_cons_of_mem _ (List.mem_append_left _ (List.mem_append_right _ (h)))) ag_wsX70
set_option maxRecDepth 20000 in
theorem glX11_readPlace_9 : GoodIn wsX11_readPlace (wsX00) := goodIn_sub (fun _ h => List.mem_cons_of_mem _ (List.mem_append_right _ (h))) ag_wsX00
set_option maxRecDepth 20000 in
theorem glX11_readPlace_7 : GoodIn wsX11_readPlace (wsX80) := goodIn_sub (fun _ h => List.mem_cons_of_mem _ (List.mem_append_left _ (List.mem_append_left _ (List.mem_append_right _ (h))))) ag_wsX80
set_option maxRecDepth 20000 in
theorem ggX11_readPlace_X11_readThing : GoodIn wsX11_readPlace wsX11_readThing := goodIn_c (glX11_readPlace_0 _ (List.mem_of_getElem? (i := 8) rfl)) (goodIn_app (goodIn_app (goodIn_app (goodIn_app (goodIn_app (goodIn_c (glX11_readPlace_0 _ (List.mem_of_getElem? (i := 0) rfl)) (goodIn_c (glX11_readPlace_0 _ (List.mem_of_getElem? (i := 9) rfl)) (goodIn_c (glX11_readPlace_0 _ (List.mem_of_getElem? (i := 10) rfl)) (goodIn_c (glX11_readPlace_0 _ (List.mem_of_getElem? (i := 11) rfl)) (goodIn_c (glX11_readPlace_0 _ (List.mem_of_getElem? (i := 12) rfl)) (goodIn_c (glX11_readPlace_0 _ (List.mem_of_getElem? (i := 13) rfl)) (goodIn_c (glX11_readPlace_0 _ (List.mem_of_getElem? (i := 14) rfl)) (goodIn_c (glX11_readPlace_0 _ (List.mem_of_getElem? (i := 15) rfl)) (goodIn_c (glX11_readPlace_0 _ (List.mem_of_getElem? (i := 16) rfl)) (goodIn_c (glX11_readPlace_0 _ (List.mem_of_getElem? (i := 17) rfl)) (goodIn_c (glX11_readPlace_0 _ (List.mem_of_getElem? (i := 18) rfl)) (goodIn_c (glX11_readPlace_0 _ (List.mem_of_getElem? (i := 19) rfl)) (goodIn_c (glX11_readPlace_0 _ (List.mem_of_getElem? (i := 20) rfl)) (goodIn_c (glX11_readPlace_0 _ (List.mem_of_getElem? (i := 21) rfl)) (goodIn_c (glX11_readPlace_0 _ (List.mem_of_getElem? (i := 22) rfl)) (goodIn_c (glX11_readPlace_0 _ (List.mem_of_getElem? (i := 23) rfl)) (goodIn_c (glX11_readPlace_1 _ (List.mem_of_getElem? (i := 0) rfl)) (goodIn_c (glX11_readPlace_1 _ (List.mem_of_getElem? (i := 1) rfl)) (goodIn_c (glX11_readPlace_1 _ (List.mem_of_getElem? (i := 2) rfl)) (goodIn_c (glX11_readPlace_1 _ (List.mem_of_getElem? (i := 3) rfl)) (goodIn_c (glX11_readPlace_1 _ (List.mem_of_getElem? (i := 4) rfl)) (goodIn_c (glX11_readPlace_1 _ (List.mem_of_getElem? (i := 5) rfl)) (goodIn_c (glX11_readPlace_1 _ (List.mem_of_getElem? (i := 6) rfl)) (goodIn_c (glX11_readPlace_1 _ (List.mem_of_getElem? (i := 7) rfl)) (goodIn_n))))))))))))))))))))))))) (goodIn_c (glX11_readPlace_1 _ (List.mem_of_getElem? (i := 8) rfl)) (goodIn_c (glX11_readPlace_1 _ (List.mem_of_getElem? (i := 9) rfl)) (goodIn_c (glX11_readPlace_1 _ (List.mem_of_getElem? (i := 10) rfl)) (goodIn_c (glX11_readPlace_1 _ (List.mem_of_getElem? (i := 11) rfl)) (goodIn_c (glX11_readPlace_1 _ (List.mem_of_getElem? (i := 12) rfl)) (goodIn_c (glX11_readPlace_1 _ (List.mem_of_getElem? (i := 13) rfl)) (goodIn_c (glX11_readPlace_1 _ (List.mem_of_getElem? (i := 14) rfl)) (goodIn_c (glX11_readPlace_1 _ (List.mem_of_getElem? (i := 15) rfl)) (goodIn_c (glX11_readPlace_1 _ (List.mem_of_getElem? (i := 16) rfl)) (goodIn_c (glX11_readPlace_1 _ (List.mem_of_getElem? (i := 17) rfl)) (goodIn_c (glX11_readPlace_1 _ (List.mem_of_getElem? (i := 18) rfl)) (goodIn_c (glX11_readPlace_1 _ (List.mem_of_getElem? (i := 19) rfl)) (goodIn_c (glX11_readPlace_1 _ (List.mem_of_getElem? (i := 20) rfl)) (goodIn_c (glX11_readPlace_1 _ (List.mem_of_getElem? (i := 21) rfl)) (goodIn_c (glX11_readPlace_1 _ (List.mem_of_getElem? (i := 22) rfl)) (goodIn_c (glX11_readPlace_1 _ (List.mem_of_getElem? (i := 23) rfl)) (goodIn_c (glX11_readPlace_2 _ (List.mem_of_getElem? (i := 0) rfl)) (goodIn_n))))))))))))))))))) (glX11_readPlace_5)) (glX11_readPlace_8)) (glX11_readPlace_9)) (glX11_readPlace_7))
set_option maxRecDepth 20000 in
theorem gX11_readPlace_X11_readThing : GoodIn wsX11_readPlace (wsV RX11 431 RX11 yX11_readThing wsX11_readThing) := goodIn_app (goodIn_c (glX11_readPlace_0 _ (List.mem_of_getElem? (i := 4) rfl)) (goodIn_c (glX11_readPlace_0 _ (List.mem_of_getElem? (i := 5) rfl)) (goodIn_c (glX11_readPlace_0 _ (List.mem_of_getElem? (i := 6) rfl)) (goodIn_c (glX11_readPlace_0 _ (List.mem_of_getElem? (i := 7) rfl)) (goodIn_n))))) ggX11_readPlace_X11_readThing
set_option maxRecDepth 20000 in
theorem glX11_readPlace_3 : GoodIn wsX11_readPlace (wsX11_readPlace_r4) := goodIn_sub (fun _ h => List.mem_cons_of_mem _ (List.mem_append_left _ (List.mem_append_left _ (List.mem_append_left _ (List.mem_append_left _ (List.mem_append_left _ (List.mem_append_right _ (List.mem_append_right _ (List.mem_append_right _ (List.mem_append_left _ (h))))))))))) (by decide +kernel)
set_option maxRecDepth 20000 in
theorem glX11_readPlace_4 : GoodIn wsX11_readPlace (wsX11_readPlace_r5) := goodIn_sub (fun _ h => List.mem_cons_of_mem _ (List.mem_append_left _ (List.mem_append_left _ (List.mem_append_left _ (List.mem_append_left _ (List.mem_append_left _ (List.mem_append_right _ (List.mem_append_right _ (List.mem_append_right _ (List.mem_append_right _ (h))))))))))) (by decide +kernel)
set_option maxRecDepth 20000 in
theorem ggX11_readPlace_X7_needWord : GoodIn wsX11_readPlace wsX7_needWord := goodIn_c (glX11_readPlace_2 _ (List.mem_of_getElem? (i := 4) rfl)) (goodIn_app (goodIn_app (goodIn_c (glX11_readPlace_0 _ (List.mem_of_getElem? (i := 20) rfl)) (goodIn_c (glX11_readPlace_2 _ (List.mem_of_getElem? (i := 5) rfl)) (goodIn_c (glX11_readPlace_2 _ (List.mem_of_getElem? (i := 6) rfl)) (goodIn_c (glX11_readPlace_2 _ (List.mem_of_getElem? (i := 7) rfl)) (goodIn_c (glX11_readPlace_0 _ (List.mem_of_getElem? (i := 14) rfl)) (goodIn_c (glX11_readPlace_2 _ (List.mem_of_getElem? (i := 8) rfl)) (goodIn_c (glX11_readPlace_1 _ (List.mem_of_getElem? (i := 1) rfl)) (goodIn_c (glX11_readPlace_1 _ (List.mem_of_getElem? (i := 2) rfl)) (goodIn_c (glX11_readPlace_2 _ (List.mem_of_getElem? (i := 9) rfl)) (goodIn_c (glX11_readPlace_2 _ (List.mem_of_getElem? (i := 10) rfl)) (goodIn_c (glX11_readPlace_2 _ (List.mem_of_getElem? (i := 11) rfl)) (goodIn_c (glX11_readPlace_2 _ (List.mem_of_getElem? (i := 12) rfl)) (goodIn_c (glX11_readPlace_2 _ (List.mem_of_getElem? (i := 13) rfl)) (goodIn_c (glX11_readPlace_2 _ (List.mem_of_getElem? (i := 14) rfl)) (goodIn_c (glX11_readPlace_2 _ (List.mem_of_getElem? (i := 15) rfl)) (goodIn_c (glX11_readPlace_2 _ (List.mem_of_getElem? (i := 16) rfl)) (goodIn_c (glX11_readPlace_2 _ (List.mem_of_getElem? (i := 17) rfl)) (goodIn_c (glX11_readPlace_2 _ (List.mem_of_getElem? (i := 18) rfl)) (goodIn_c (glX11_readPlace_2 _ (List.mem_of_getElem? (i := 19) rfl)) (goodIn_c (glX11_readPlace_2 _ (List.mem_of_getElem? (i := 20) rfl)) (goodIn_c (glX11_readPlace_0 _ (List.mem_of_getElem? (i := 21) rfl)) (goodIn_c (glX11_readPlace_0 _ (List.mem_of_getElem? (i := 22) rfl)) (goodIn_c (glX11_readPlace_0 _ (List.mem_of_getElem? (i := 23) rfl)) (goodIn_c (glX11_readPlace_1 _ (List.mem_of_getElem? (i := 0) rfl)) (goodIn_n))))))))))))))))))))))))) (goodIn_app (goodIn_c (glX11_readPlace_2 _ (List.mem_of_getElem? (i := 21) rfl)) (goodIn_c (glX11_readPlace_2 _ (List.mem_of_getElem? (i := 22) rfl)) (goodIn_c (glX11_readPlace_2 _ (List.mem_of_getElem? (i := 23) rfl)) (goodIn_c (glX11_readPlace_3 _ (List.mem_of_getElem? (i := 0) rfl)) (goodIn_c (glX11_readPlace_3 _ (List.mem_of_getElem? (i := 1) rfl)) (goodIn_c (glX11_readPlace_3 _ (List.mem_of_getElem? (i := 2) rfl)) (goodIn_c (glX11_readPlace_3 _ (List.mem_of_getElem? (i := 3) rfl)) (goodIn_c (glX11_readPlace_3 _ (List.mem_of_getElem? (i := 4) rfl)) (goodIn_c (glX11_readPlace_3 _ (List.mem_of_getElem? (i := 5) rfl)) (goodIn_c (glX11_readPlace_3 _ (List.mem_of_getElem? (i := 6) rfl)) (goodIn_c (glX11_readPlace_3 _ (List.mem_of_getElem? (i := 7) rfl)) (goodIn_c (glX11_readPlace_3 _ (List.mem_of_getElem? (i := 8) rfl)) (goodIn_c (glX11_readPlace_3 _ (List.mem_of_getElem? (i := 9) rfl)) (goodIn_c (glX11_readPlace_3 _ (List.mem_of_getElem? (i := 10) rfl)) (goodIn_c (glX11_readPlace_3 _ (List.mem_of_getElem? (i := 11) rfl)) (goodIn_c (glX11_readPlace_3 _ (List.mem_of_getElem? (i := 12) rfl)) (goodIn_c (glX11_readPlace_3 _ (List.mem_of_getElem? (i := 13) rfl)) (goodIn_c (glX11_readPlace_3 _ (List.mem_of_getElem? (i := 14) rfl)) (goodIn_c (glX11_readPlace_3 _ (List.mem_of_getElem? (i := 15) rfl)) (goodIn_c (glX11_readPlace_3 _ (List.mem_of_getElem? (i := 16) rfl)) (goodIn_c (glX11_readPlace_3 _ (List.mem_of_getElem? (i := 17) rfl)) (goodIn_c (glX11_readPlace_3 _ (List.mem_of_getElem? (i := 18) rfl)) (goodIn_c (glX11_readPlace_3 _ (List.mem_of_getElem? (i := 19) rfl)) (goodIn_c (glX11_readPlace_3 _ (List.mem_of_getElem? (i := 20) rfl)) (goodIn_n))))))))))))))))))))))))) (goodIn_c (glX11_readPlace_3 _ (List.mem_of_getElem? (i := 21) rfl)) (goodIn_c (glX11_readPlace_3 _ (List.mem_of_getElem? (i := 22) rfl)) (goodIn_c (glX11_readPlace_3 _ (List.mem_of_getElem? (i := 23) rfl)) (goodIn_c (glX11_readPlace_4 _ (List.mem_of_getElem? (i := 0) rfl)) (goodIn_c (glX11_readPlace_4 _ (List.mem_of_getElem? (i := 1) rfl)) (goodIn_c (glX11_readPlace_4 _ (List.mem_of_getElem? (i := 2) rfl)) (goodIn_c (glX11_readPlace_4 _ (List.mem_of_getElem? (i := 3) rfl)) (goodIn_c (glX11_readPlace_4 _ (List.mem_of_getElem? (i := 4) rfl)) (goodIn_c (glX11_readPlace_4 _ (List.mem_of_getElem? (i := 5) rfl)) (goodIn_c (glX11_readPlace_4 _ (List.mem_of_getElem? (i := 6) rfl)) (goodIn_c (glX11_readPlace_4 _ (List.mem_of_getElem? (i := 7) rfl)) (goodIn_c (glX11_readPlace_4 _ (List.mem_of_getElem? (i := 8) rfl)) (goodIn_c (glX11_readPlace_4 _ (List.mem_of_getElem? (i := 9) rfl)) (goodIn_c (glX11_readPlace_1 _ (List.mem_of_getElem? (i := 12) rfl)) (goodIn_c (glX11_readPlace_1 _ (List.mem_of_getElem? (i := 13) rfl)) (goodIn_c (glX11_readPlace_1 _ (List.mem_of_getElem? (i := 14) rfl)) (goodIn_c (glX11_readPlace_1 _ (List.mem_of_getElem? (i := 15) rfl)) (goodIn_c (glX11_readPlace_1 _ (List.mem_of_getElem? (i := 7) rfl)) (goodIn_c (glX11_readPlace_1 _ (List.mem_of_getElem? (i := 8) rfl)) (goodIn_c (glX11_readPlace_1 _ (List.mem_of_getElem? (i := 9) rfl)) (goodIn_c (glX11_readPlace_1 _ (List.mem_of_getElem? (i := 10) rfl)) (goodIn_c (glX11_readPlace_1 _ (List.mem_of_getElem? (i := 11) rfl)) (goodIn_n))))))))))))))))))))))))) (glX11_readPlace_8))
set_option maxRecDepth 20000 in
theorem gX11_readPlace_X7_needWord : GoodIn wsX11_readPlace (wsV RX11 437 RX7 yX7_needWord wsX7_needWord) := goodIn_app (goodIn_c (glX11_readPlace_2 _ (List.mem_of_getElem? (i := 1) rfl)) (goodIn_c (glX11_readPlace_2 _ (List.mem_of_getElem? (i := 2) rfl)) (goodIn_c (glX11_readPlace_2 _ (List.mem_of_getElem? (i := 3) rfl)) (goodIn_c (glX11_readPlace_0 _ (List.mem_of_getElem? (i := 14) rfl)) (goodIn_n))))) ggX11_readPlace_X7_needWord
theorem dX11_readPlace_0 : decode cX11_readPlace 0 = .ok (.aload_n 0, 1) := qdE42 (by decide +kernel)
theorem dX11_readPlace_1 : decode cX11_readPlace 1 = .ok (.aconst_null, 1) := qdE1 (by decide +kernel)
theorem dX11_readPlace_2 : decode cX11_readPlace 2 = .ok (.invokevirtual 431, 3) := qdE182 (by decide +kernel)
theorem dX11_readPlace_5 : decode cX11_readPlace 5 = .ok (.astore_n 1, 1) := qdE76 (by decide +kernel)
theorem dX11_readPlace_6 : decode cX11_readPlace 6 = .ok (.aload_n 0, 1) := qdE42 (by decide +kernel)
theorem dX11_readPlace_7 : decode cX11_readPlace 7 = .ok (.getfield 10, 3) := qdE180 (by decide +kernel)
theorem dX11_readPlace_10 : decode cX11_readPlace 10 = .ok (.ldc_w 435, 3) := qdE19 (by decide +kernel)
theorem dX11_readPlace_13 : decode cX11_readPlace 13 = .ok (.invokevirtual 437, 3) := qdE182 (by decide +kernel)
theorem dX11_readPlace_16 : decode cX11_readPlace 16 = .ok (.aload_n 0, 1) := qdE42 (by decide +kernel)
theorem dX11_readPlace_17 : decode cX11_readPlace 17 = .ok (.aload_n 1, 1) := qdE43 (by decide +kernel)
theorem dX11_readPlace_18 : decode cX11_readPlace 18 = .ok (.invokevirtual 431, 3) := qdE182 (by decide +kernel)
theorem dX11_readPlace_21 : decode cX11_readPlace 21 = .ok (.astore_n 2, 1) := qdE77 (by decide +kernel)
theorem dX11_readPlace_22 : decode cX11_readPlace 22 = .ok (.aload_n 1, 1) := qdE43 (by decide +kernel)
theorem dX11_readPlace_23 : decode cX11_readPlace 23 = .ok (.ifnull 23, 3) := qdE198 (by decide +kernel)
theorem dX11_readPlace_26 : decode cX11_readPlace 26 = .ok (.aload_n 2, 1) := qdE44 (by decide +kernel)
theorem dX11_readPlace_27 : decode cX11_readPlace 27 = .ok (.ifnull 19, 3) := qdE198 (by decide +kernel)
theorem dX11_readPlace_30 : decode cX11_readPlace 30 = .ok (.aload_n 0, 1) := qdE42 (by decide +kernel)
theorem dX11_readPlace_31 : decode cX11_readPlace 31 = .ok (.getfield 37, 3) := qdE180 (by decide +kernel)
theorem dX11_readPlace_34 : decode cX11_readPlace 34 = .ok (.getfield 178, 3) := qdE180 (by decide +kernel)
theorem dX11_readPlace_37 : decode cX11_readPlace 37 = .ok (.aload_n 1, 1) := qdE43 (by decide +kernel)
theorem dX11_readPlace_38 : decode cX11_readPlace 38 = .ok (.getfield 181, 3) := qdE180 (by decide +kernel)
theorem dX11_readPlace_41 : decode cX11_readPlace 41 = .ok (.aload_n 2, 1) := qdE44 (by decide +kernel)
theorem dX11_readPlace_42 : decode cX11_readPlace 42 = .ok (.getfield 181, 3) := qdE180 (by decide +kernel)
theorem dX11_readPlace_45 : decode cX11_readPlace 45 = .ok (.iastore, 1) := qdE79 (by decide +kernel)
theorem dX11_readPlace_46 : decode cX11_readPlace 46 = .ok (.return_, 1) := qdE177 (by decide +kernel)
set_option maxRecDepth 20000 in
theorem glX11_readThing_0 : GoodIn wsX11_readThing (wsX11_readThing_r1) := goodIn_sub (fun _ h => List.mem_cons_of_mem _ (List.mem_append_left _ (List.mem_append_left _ (List.mem_append_left _ (List.mem_append_left _ (List.mem_append_left _ (h))))))) (by decide +kernel)
set_option maxRecDepth 20000 in
theorem glX11_readThing_1 : GoodIn wsX11_readThing (wsX11_readThing_r2) := goodIn_sub (fun _ h => List.mem_cons_of_mem _ (List.mem_append_left _ (List.mem_append_left _ (List.mem_append_left _ (List.mem_append_left _ (List.mem_append_right _ (h))))))) (by decide +kernel)
set_option maxRecDepth 20000 in
theorem glX11_readThing_3 : GoodIn wsX11_readThing (wsX70) := goodIn_sub (fun _ h => List.mem_cons_of_mem _ (List.mem_append_left _ (List.mem_append_left _ (List.mem_append_right _ (h))))) ag_wsX70
set_option maxRecDepth 20000 in
theorem ggX11_readThing_X7_code : GoodIn wsX11_readThing wsX7_code := goodIn_c (glX11_readThing_0 _ (List.mem_of_getElem? (i := 7) rfl)) (goodIn_app (goodIn_app (goodIn_c (glX11_readThing_0 _ (List.mem_of_getElem? (i := 8) rfl)) (goodIn_c (glX11_readThing_0 _ (List.mem_of_getElem? (i := 9) rfl)) (goodIn_c (glX11_readThing_0 _ (List.mem_of_getElem? (i := 10) rfl)) (goodIn_c (glX11_readThing_0 _ (List.mem_of_getElem? (i := 6) rfl)) (goodIn_c (glX11_readThing_0 _ (List.mem_of_getElem? (i := 11) rfl)) (goodIn_c (glX11_readThing_0 _ (List.mem_of_getElem? (i := 12) rfl)) (goodIn_c (glX11_readThing_0 _ (List.mem_of_getElem? (i := 13) rfl)) (goodIn_c (glX11_readThing_0 _ (List.mem_of_getElem? (i := 14) rfl)) (goodIn_c (glX11_readThing_0 _ (List.mem_of_getElem? (i := 15) rfl)) (goodIn_c (glX11_readThing_0 _ (List.mem_of_getElem? (i := 16) rfl)) (goodIn_c (glX11_readThing_0 _ (List.mem_of_getElem? (i := 17) rfl)) (goodIn_c (glX11_readThing_0 _ (List.mem_of_getElem? (i := 18) rfl)) (goodIn_c (glX11_readThing_0 _ (List.mem_of_getElem? (i := 19) rfl)) (goodIn_c (glX11_readThing_0 _ (List.mem_of_getElem? (i := 20) rfl)) (goodIn_c (glX11_readThing_0 _ (List.mem_of_getElem? (i := 21) rfl)) (goodIn_c (glX11_readThing_0 _ (List.mem_of_getElem? (i := 22) rfl)) (goodIn_c (glX11_readThing_0 _ (List.mem_of_getElem? (i := 23) rfl)) (goodIn_c (glX11_readThing_1 _ (List.mem_of_getElem? (i := 0) rfl)) (goodIn_c (glX11_readThing_1 _ (List.mem_of_getElem? (i := 1) rfl)) (goodIn_c (glX11_readThing_1 _ (List.mem_of_getElem? (i := 2) rfl)) (goodIn_c (glX11_readThing_1 _ (List.mem_of_getElem? (i := 3) rfl)) (goodIn_c (glX11_readThing_1 _ (List.mem_of_getElem? (i := 4) rfl)) (goodIn_c (glX11_readThing_1 _ (List.mem_of_getElem? (i := 5) rfl)) (goodIn_c (glX11_readThing_1 _ (List.mem_of_getElem? (i := 6) rfl)) (goodIn_n))))))))))))))))))))))))) (goodIn_c (glX11_readThing_1 _ (List.mem_of_getElem? (i := 7) rfl)) (goodIn_n))) (glX11_readThing_3))
set_option maxRecDepth 20000 in
theorem gX11_readThing_X7_code : GoodIn wsX11_readThing (wsV RX11 440 RX7 yX7_code wsX7_code) := goodIn_app (goodIn_c (glX11_readThing_0 _ (List.mem_of_getElem? (i := 3) rfl)) (goodIn_c (glX11_readThing_0 _ (List.mem_of_getElem? (i := 4) rfl)) (goodIn_c (glX11_readThing_0 _ (List.mem_of_getElem? (i := 5) rfl)) (goodIn_c (glX11_readThing_0 _ (List.mem_of_getElem? (i := 6) rfl)) (goodIn_n))))) ggX11_readThing_X7_code
set_option maxRecDepth 20000 in
theorem glX11_readThing_4 : GoodIn wsX11_readThing (wsX00) := goodIn_sub (fun _ h => List.mem_cons_of_mem _ (List.mem_append_left _ (List.mem_append_right _ (h)))) ag_wsX00
set_option maxRecDepth 20000 in
theorem glX11_readThing_5 : GoodIn wsX11_readThing (wsX80) := goodIn_sub (fun _ h => List.mem_cons_of_mem _ (List.mem_append_right _ (h))) ag_wsX80
set_option maxRecDepth 20000 in
theorem ggX11_readThing_X0_ofCode : GoodIn wsX11_readThing wsX0_ofCode := goodIn_c (glX11_readThing_1 _ (List.mem_of_getElem? (i := 12) rfl)) (goodIn_app (goodIn_app (goodIn_c (glX11_readThing_1 _ (List.mem_of_getElem? (i := 13) rfl)) (goodIn_c (glX11_readThing_1 _ (List.mem_of_getElem? (i := 14) rfl)) (goodIn_c (glX11_readThing_1 _ (List.mem_of_getElem? (i := 15) rfl)) (goodIn_n)))) (glX11_readThing_4)) (glX11_readThing_5))
set_option maxRecDepth 20000 in
theorem gX11_readThing_X0_ofCode : GoodIn wsX11_readThing (wsV RX11 98 RX0 yX0_ofCode wsX0_ofCode) := goodIn_app (goodIn_c (glX11_readThing_1 _ (List.mem_of_getElem? (i := 8) rfl)) (goodIn_c (glX11_readThing_1 _ (List.mem_of_getElem? (i := 9) rfl)) (goodIn_c (glX11_readThing_1 _ (List.mem_of_getElem? (i := 10) rfl)) (goodIn_c (glX11_readThing_1 _ (List.mem_of_getElem? (i := 11) rfl)) (goodIn_n))))) ggX11_readThing_X0_ofCode
set_option maxRecDepth 20000 in
theorem ggX11_readThing_X7_refuse : GoodIn wsX11_readThing wsX7_refuse := goodIn_c (glX11_readThing_1 _ (List.mem_of_getElem? (i := 2) rfl)) (goodIn_app (goodIn_c (glX11_readThing_1 _ (List.mem_of_getElem? (i := 3) rfl)) (goodIn_n)) (glX11_readThing_3))
set_option maxRecDepth 20000 in
theorem gX11_readThing_X7_refuse : GoodIn wsX11_readThing (wsV RX11 416 RX7 yX7_refuse wsX7_refuse) := goodIn_app (goodIn_c (glX11_readThing_1 _ (List.mem_of_getElem? (i := 16) rfl)) (goodIn_c (glX11_readThing_1 _ (List.mem_of_getElem? (i := 0) rfl)) (goodIn_c (glX11_readThing_1 _ (List.mem_of_getElem? (i := 1) rfl)) (goodIn_c (glX11_readThing_0 _ (List.mem_of_getElem? (i := 6) rfl)) (goodIn_n))))) ggX11_readThing_X7_refuse
theorem dX11_readThing_0 : decode cX11_readThing 0 = .ok (.aload_n 0, 1) := qdE42 (by decide +kernel)
theorem dX11_readThing_1 : decode cX11_readThing 1 = .ok (.getfield 10, 3) := qdE180 (by decide +kernel)
theorem dX11_readThing_4 : decode cX11_readThing 4 = .ok (.getfield 413, 3) := qdE180 (by decide +kernel)
theorem dX11_readThing_7 : decode cX11_readThing 7 = .ok (.istore_n 2, 1) := qdE61 (by decide +kernel)
theorem dX11_readThing_8 : decode cX11_readThing 8 = .ok (.aload_n 0, 1) := qdE42 (by decide +kernel)
theorem dX11_readThing_9 : decode cX11_readThing 9 = .ok (.getfield 19, 3) := qdE180 (by decide +kernel)
theorem dX11_readThing_12 : decode cX11_readThing 12 = .ok (.aload_n 0, 1) := qdE42 (by decide +kernel)
theorem dX11_readThing_13 : decode cX11_readThing 13 = .ok (.getfield 10, 3) := qdE180 (by decide +kernel)
theorem dX11_readThing_16 : decode cX11_readThing 16 = .ok (.invokevirtual 440, 3) := qdE182 (by decide +kernel)
theorem dX11_readThing_19 : decode cX11_readThing 19 = .ok (.invokevirtual 98, 3) := qdE182 (by decide +kernel)
theorem dX11_readThing_22 : decode cX11_readThing 22 = .ok (.astore_n 3, 1) := qdE78 (by decide +kernel)
theorem dX11_readThing_23 : decode cX11_readThing 23 = .ok (.aload_n 3, 1) := qdE45 (by decide +kernel)
theorem dX11_readThing_24 : decode cX11_readThing 24 = .ok (.ifnull 8, 3) := qdE198 (by decide +kernel)
theorem dX11_readThing_27 : decode cX11_readThing 27 = .ok (.aload_n 3, 1) := qdE45 (by decide +kernel)
theorem dX11_readThing_28 : decode cX11_readThing 28 = .ok (.aload_n 1, 1) := qdE43 (by decide +kernel)
theorem dX11_readThing_29 : decode cX11_readThing 29 = .ok (.if_acmp .ne 13, 3) := qdE166 (by decide +kernel)
theorem dX11_readThing_32 : decode cX11_readThing 32 = .ok (.aload_n 0, 1) := qdE42 (by decide +kernel)
theorem dX11_readThing_33 : decode cX11_readThing 33 = .ok (.getfield 10, 3) := qdE180 (by decide +kernel)
theorem dX11_readThing_36 : decode cX11_readThing 36 = .ok (.iload_n 2, 1) := qdE28 (by decide +kernel)
theorem dX11_readThing_37 : decode cX11_readThing 37 = .ok (.invokevirtual 416, 3) := qdE182 (by decide +kernel)
theorem dX11_readThing_40 : decode cX11_readThing 40 = .ok (.aconst_null, 1) := qdE1 (by decide +kernel)
theorem dX11_readThing_41 : decode cX11_readThing 41 = .ok (.areturn, 1) := qdE176 (by decide +kernel)
theorem dX11_readThing_42 : decode cX11_readThing 42 = .ok (.aload_n 3, 1) := qdE45 (by decide +kernel)
theorem dX11_readThing_43 : decode cX11_readThing 43 = .ok (.areturn, 1) := qdE176 (by decide +kernel)
set_option maxRecDepth 20000 in
theorem glX11_readLetter_0 : GoodIn wsX11_readLetter (wsX11_readLetter_r1) := goodIn_sub (fun _ h => List.mem_cons_of_mem _ (List.mem_append_left _ (List.mem_append_left _ (List.mem_append_left _ (List.mem_append_left _ (h)))))) (by decide +kernel)
set_option maxRecDepth 20000 in
theorem glX11_readLetter_1 : GoodIn wsX11_readLetter (wsX11_readLetter_r2) := goodIn_sub (fun _ h => List.mem_cons_of_mem _ (List.mem_append_left _ (List.mem_append_left _ (List.mem_append_left _ (List.mem_append_right _ (List.mem_append_left _ (h))))))) (by decide +kernel)
set_option maxRecDepth 20000 in
theorem glX11_readLetter_7 : GoodIn wsX11_readLetter (wsX70) := goodIn_sub (fun _ h => List.mem_cons_of_mem _ (List.mem_append_right _ (h))) ag_wsX70
set_option maxRecDepth 20000 in
theorem ggX11_readLetter_X7_code : GoodIn wsX11_readLetter wsX7_code := goodIn_c (glX11_readLetter_0 _ (List.mem_of_getElem? (i := 8) rfl)) (goodIn_app (goodIn_app (goodIn_c (glX11_readLetter_0 _ (List.mem_of_getElem? (i := 9) rfl)) (goodIn_c (glX11_readLetter_0 _ (List.mem_of_getElem? (i := 10) rfl)) (goodIn_c (glX11_readLetter_0 _ (List.mem_of_getElem? (i := 11) rfl)) (goodIn_c (glX11_readLetter_0 _ (List.mem_of_getElem? (i := 7) rfl)) (goodIn_c (glX11_readLetter_0 _ (List.mem_of_getElem? (i := 12) rfl)) (goodIn_c (glX11_readLetter_0 _ (List.mem_of_getElem? (i := 13) rfl)) (goodIn_c (glX11_readLetter_0 _ (List.mem_of_getElem? (i := 14) rfl)) (goodIn_c (glX11_readLetter_0 _ (List.mem_of_getElem? (i := 15) rfl)) (goodIn_c (glX11_readLetter_0 _ (List.mem_of_getElem? (i := 16) rfl)) (goodIn_c (glX11_readLetter_0 _ (List.mem_of_getElem? (i := 17) rfl)) (goodIn_c (glX11_readLetter_0 _ (List.mem_of_getElem? (i := 18) rfl)) (goodIn_c (glX11_readLetter_0 _ (List.mem_of_getElem? (i := 19) rfl)) (goodIn_c (glX11_readLetter_0 _ (List.mem_of_getElem? (i := 20) rfl)) (goodIn_c (glX11_readLetter_0 _ (List.mem_of_getElem? (i := 21) rfl)) (goodIn_c (glX11_readLetter_0 _ (List.mem_of_getElem? (i := 22) rfl)) (goodIn_c (glX11_readLetter_0 _ (List.mem_of_getElem? (i := 23) rfl)) (goodIn_c (glX11_readLetter_1 _ (List.mem_of_getElem? (i := 0) rfl)) (goodIn_c (glX11_readLetter_1 _ (List.mem_of_getElem? (i := 1) rfl)) (goodIn_c (glX11_readLetter_1 _ (List.mem_of_getElem? (i := 2) rfl)) (goodIn_c (glX11_readLetter_1 _ (List.mem_of_getElem? (i := 3) rfl)) (goodIn_c (glX11_readLetter_1 _ (List.mem_of_getElem? (i := 4) rfl)) (goodIn_c (glX11_readLetter_1 _ (List.mem_of_getElem? (i := 5) rfl)) (goodIn_c (glX11_readLetter_1 _ (List.mem_of_getElem? (i := 6) rfl)) (goodIn_c (glX11_readLetter_1 _ (List.mem_of_getElem? (i := 7) rfl)) (goodIn_n))))))))))))))))))))))))) (goodIn_c (glX11_readLetter_1 _ (List.mem_of_getElem? (i := 8) rfl)) (goodIn_n))) (glX11_readLetter_7))
set_option maxRecDepth 20000 in
theorem gX11_readLetter_X7_code : GoodIn wsX11_readLetter (wsV RX11 440 RX7 yX7_code wsX7_code) := goodIn_app (goodIn_c (glX11_readLetter_0 _ (List.mem_of_getElem? (i := 4) rfl)) (goodIn_c (glX11_readLetter_0 _ (List.mem_of_getElem? (i := 5) rfl)) (goodIn_c (glX11_readLetter_0 _ (List.mem_of_getElem? (i := 6) rfl)) (goodIn_c (glX11_readLetter_0 _ (List.mem_of_getElem? (i := 7) rfl)) (goodIn_n))))) ggX11_readLetter_X7_code
set_option maxRecDepth 20000 in
theorem glX11_readLetter_2 : GoodIn wsX11_readLetter (wsX11_readLetter_r3) := goodIn_sub (fun _ h => List.mem_cons_of_mem _ (List.mem_append_left _ (List.mem_append_left _ (List.mem_append_left _ (List.mem_append_right _ (List.mem_append_right _ (List.mem_append_left _ (h)))))))) (by decide +kernel)
set_option maxRecDepth 20000 in
theorem glX11_readLetter_3 : GoodIn wsX11_readLetter (wsX11_readLetter_r4) := goodIn_sub (fun _ h => List.mem_cons_of_mem _ (List.mem_append_left _ (List.mem_append_left _ (List.mem_append_left _ (List.mem_append_right _ (List.mem_append_right _ (List.mem_append_right _ (List.mem_append_left _ (h))))))))) (by decide +kernel)
set_option maxRecDepth 20000 in
theorem ggX11_readLetter_X7_needWord : GoodIn wsX11_readLetter wsX7_needWord := goodIn_c (glX11_readLetter_1 _ (List.mem_of_getElem? (i := 12) rfl)) (goodIn_app (goodIn_app (goodIn_c (glX11_readLetter_0 _ (List.mem_of_getElem? (i := 13) rfl)) (goodIn_c (glX11_readLetter_1 _ (List.mem_of_getElem? (i := 13) rfl)) (goodIn_c (glX11_readLetter_1 _ (List.mem_of_getElem? (i := 14) rfl)) (goodIn_c (glX11_readLetter_1 _ (List.mem_of_getElem? (i := 15) rfl)) (goodIn_c (glX11_readLetter_0 _ (List.mem_of_getElem? (i := 7) rfl)) (goodIn_c (glX11_readLetter_1 _ (List.mem_of_getElem? (i := 16) rfl)) (goodIn_c (glX11_readLetter_0 _ (List.mem_of_getElem? (i := 18) rfl)) (goodIn_c (glX11_readLetter_0 _ (List.mem_of_getElem? (i := 19) rfl)) (goodIn_c (glX11_readLetter_1 _ (List.mem_of_getElem? (i := 17) rfl)) (goodIn_c (glX11_readLetter_1 _ (List.mem_of_getElem? (i := 18) rfl)) (goodIn_c (glX11_readLetter_1 _ (List.mem_of_getElem? (i := 19) rfl)) (goodIn_c (glX11_readLetter_1 _ (List.mem_of_getElem? (i := 20) rfl)) (goodIn_c (glX11_readLetter_1 _ (List.mem_of_getElem? (i := 21) rfl)) (goodIn_c (glX11_readLetter_1 _ (List.mem_of_getElem? (i := 22) rfl)) (goodIn_c (glX11_readLetter_1 _ (List.mem_of_getElem? (i := 23) rfl)) (goodIn_c (glX11_readLetter_2 _ (List.mem_of_getElem? (i := 0) rfl)) (goodIn_c (glX11_readLetter_2 _ (List.mem_of_getElem? (i := 1) rfl)) (goodIn_c (glX11_readLetter_2 _ (List.mem_of_getElem? (i := 2) rfl)) (goodIn_c (glX11_readLetter_2 _ (List.mem_of_getElem? (i := 3) rfl)) (goodIn_c (glX11_readLetter_2 _ (List.mem_of_getElem? (i := 4) rfl)) (goodIn_c (glX11_readLetter_0 _ (List.mem_of_getElem? (i := 14) rfl)) (goodIn_c (glX11_readLetter_0 _ (List.mem_of_getElem? (i := 15) rfl)) (goodIn_c (glX11_readLetter_0 _ (List.mem_of_getElem? (i := 16) rfl)) (goodIn_c (glX11_readLetter_0 _ (List.mem_of_getElem? (i := 17) rfl)) (goodIn_n))))))))))))))))))))))))) (goodIn_app (goodIn_c (glX11_readLetter_2 _ (List.mem_of_getElem? (i := 5) rfl)) (goodIn_c (glX11_readLetter_2 _ (List.mem_of_getElem? (i := 6) rfl)) (goodIn_c (glX11_readLetter_2 _ (List.mem_of_getElem? (i := 7) rfl)) (goodIn_c (glX11_readLetter_2 _ (List.mem_of_getElem? (i := 8) rfl)) (goodIn_c (glX11_readLetter_2 _ (List.mem_of_getElem? (i := 9) rfl)) (goodIn_c (glX11_readLetter_2 _ (List.mem_of_getElem? (i := 10) rfl)) (goodIn_c (glX11_readLetter_2 _ (List.mem_of_getElem? (i := 11) rfl)) (goodIn_c (glX11_readLetter_2 _ (List.mem_of_getElem? (i := 12) rfl)) (goodIn_c (glX11_readLetter_2 _ (List.mem_of_getElem? (i := 13) rfl)) (goodIn_c (glX11_readLetter_2 _ (List.mem_of_getElem? (i := 14) rfl)) (goodIn_c (glX11_readLetter_2 _ (List.mem_of_getElem? (i := 15) rfl)) (goodIn_c (glX11_readLetter_2 _ (List.mem_of_getElem? (i := 16) rfl)) (goodIn_c (glX11_readLetter_2 _ (List.mem_of_getElem? (i := 17) rfl)) (goodIn_c (glX11_readLetter_2 _ (List.mem_of_getElem? (i := 18) rfl)) (goodIn_c (glX11_readLetter_2 _ (List.mem_of_getElem? (i := 19) rfl)) (goodIn_c (glX11_readLetter_2 _ (List.mem_of_getElem? (i := 20) rfl)) (goodIn_c (glX11_readLetter_2 _ (List.mem_of_getElem? (i := 21) rfl)) (goodIn_c (glX11_readLetter_2 _ (List.mem_of_getElem? (i := 22) rfl)) (goodIn_c (glX11_readLetter_2 _ (List.mem_of_getElem? (i := 23) rfl)) (goodIn_c (glX11_readLetter_3 _ (List.mem_of_getElem? (i := 0) rfl)) (goodIn_c (glX11_readLetter_3 _ (List.mem_of_getElem? (i := 1) rfl)) (goodIn_c (glX11_readLetter_3 _ (List.mem_of_getElem? (i := 2) rfl)) (goodIn_c (glX11_readLetter_3 _ (List.mem_of_getElem? (i := 3) rfl)) (goodIn_c (glX11_readLetter_3 _ (List.mem_of_getElem? (i := 4) rfl)) (goodIn_n))))))))))))))))))))))))) (goodIn_c (glX11_readLetter_3 _ (List.mem_of_getElem? (i := 5) rfl)) (goodIn_c (glX11_readLetter_3 _ (List.mem_of_getElem? (i := 6) rfl)) (goodIn_c (glX11_readLetter_3 _ (List.mem_of_getElem? (i := 7) rfl)) (goodIn_c (glX11_readLetter_3 _ (List.mem_of_getElem? (i := 8) rfl)) (goodIn_c (glX11_readLetter_3 _ (List.mem_of_getElem? (i := 9) rfl)) (goodIn_c (glX11_readLetter_3 _ (List.mem_of_getElem? (i := 10) rfl)) (goodIn_c (glX11_readLetter_3 _ (List.mem_of_getElem? (i := 11) rfl)) (goodIn_c (glX11_readLetter_3 _ (List.mem_of_getElem? (i := 12) rfl)) (goodIn_c (glX11_readLetter_3 _ (List.mem_of_getElem? (i := 13) rfl)) (goodIn_c (glX11_readLetter_3 _ (List.mem_of_getElem? (i := 14) rfl)) (goodIn_c (glX11_readLetter_3 _ (List.mem_of_getElem? (i := 15) rfl)) (goodIn_c (glX11_readLetter_3 _ (List.mem_of_getElem? (i := 16) rfl)) (goodIn_c (glX11_readLetter_3 _ (List.mem_of_getElem? (i := 17) rfl)) (goodIn_c (glX11_readLetter_1 _ (List.mem_of_getElem? (i := 5) rfl)) (goodIn_c (glX11_readLetter_1 _ (List.mem_of_getElem? (i := 6) rfl)) (goodIn_c (glX11_readLetter_1 _ (List.mem_of_getElem? (i := 7) rfl)) (goodIn_c (glX11_readLetter_1 _ (List.mem_of_getElem? (i := 8) rfl)) (goodIn_c (glX11_readLetter_1 _ (List.mem_of_getElem? (i := 0) rfl)) (goodIn_c (glX11_readLetter_1 _ (List.mem_of_getElem? (i := 1) rfl)) (goodIn_c (glX11_readLetter_1 _ (List.mem_of_getElem? (i := 2) rfl)) (goodIn_c (glX11_readLetter_1 _ (List.mem_of_getElem? (i := 3) rfl)) (goodIn_c (glX11_readLetter_1 _ (List.mem_of_getElem? (i := 4) rfl)) (goodIn_n))))))))))))))))))))))))) (glX11_readLetter_7))
set_option maxRecDepth 20000 in
theorem gX11_readLetter_X7_needWord : GoodIn wsX11_readLetter (wsV RX11 437 RX7 yX7_needWord wsX7_needWord) := goodIn_app (goodIn_c (glX11_readLetter_1 _ (List.mem_of_getElem? (i := 9) rfl)) (goodIn_c (glX11_readLetter_1 _ (List.mem_of_getElem? (i := 10) rfl)) (goodIn_c (glX11_readLetter_1 _ (List.mem_of_getElem? (i := 11) rfl)) (goodIn_c (glX11_readLetter_0 _ (List.mem_of_getElem? (i := 7) rfl)) (goodIn_n))))) ggX11_readLetter_X7_needWord
set_option maxRecDepth 20000 in
theorem ggX11_readLetter_X7_number : GoodIn wsX11_readLetter wsX7_number := goodIn_c (glX11_readLetter_3 _ (List.mem_of_getElem? (i := 21) rfl)) (goodIn_app (goodIn_app (goodIn_c (glX11_readLetter_0 _ (List.mem_of_getElem? (i := 9) rfl)) (goodIn_c (glX11_readLetter_0 _ (List.mem_of_getElem? (i := 10) rfl)) (goodIn_c (glX11_readLetter_0 _ (List.mem_of_getElem? (i := 11) rfl)) (goodIn_c (glX11_readLetter_0 _ (List.mem_of_getElem? (i := 7) rfl)) (goodIn_c (glX11_readLetter_0 _ (List.mem_of_getElem? (i := 12) rfl)) (goodIn_c (glX11_readLetter_0 _ (List.mem_of_getElem? (i := 13) rfl)) (goodIn_c (glX11_readLetter_0 _ (List.mem_of_getElem? (i := 14) rfl)) (goodIn_c (glX11_readLetter_0 _ (List.mem_of_getElem? (i := 15) rfl)) (goodIn_c (glX11_readLetter_0 _ (List.mem_of_getElem? (i := 16) rfl)) (goodIn_c (glX11_readLetter_0 _ (List.mem_of_getElem? (i := 17) rfl)) (goodIn_c (glX11_readLetter_0 _ (List.mem_of_getElem? (i := 18) rfl)) (goodIn_c (glX11_readLetter_0 _ (List.mem_of_getElem? (i := 19) rfl)) (goodIn_c (glX11_readLetter_0 _ (List.mem_of_getElem? (i := 20) rfl)) (goodIn_c (glX11_readLetter_0 _ (List.mem_of_getElem? (i := 21) rfl)) (goodIn_c (glX11_readLetter_0 _ (List.mem_of_getElem? (i := 22) rfl)) (goodIn_c (glX11_readLetter_0 _ (List.mem_of_getElem? (i := 23) rfl)) (goodIn_c (glX11_readLetter_1 _ (List.mem_of_getElem? (i := 0) rfl)) (goodIn_c (glX11_readLetter_1 _ (List.mem_of_getElem? (i := 1) rfl)) (goodIn_c (glX11_readLetter_1 _ (List.mem_of_getElem? (i := 2) rfl)) (goodIn_c (glX11_readLetter_1 _ (List.mem_of_getElem? (i := 3) rfl)) (goodIn_c (glX11_readLetter_1 _ (List.mem_of_getElem? (i := 4) rfl)) (goodIn_c (glX11_readLetter_1 _ (List.mem_of_getElem? (i := 5) rfl)) (goodIn_c (glX11_readLetter_1 _ (List.mem_of_getElem? (i := 6) rfl)) (goodIn_c (glX11_readLetter_1 _ (List.mem_of_getElem? (i := 7) rfl)) (goodIn_n))))))))))))))))))))))))) (goodIn_c (glX11_readLetter_1 _ (List.mem_of_getElem? (i := 8) rfl)) (goodIn_n))) (glX11_readLetter_7))
set_option maxRecDepth 20000 in
theorem gX11_readLetter_X7_number : GoodIn wsX11_readLetter (wsV RX11 422 RX7 yX7_number wsX7_number) := goodIn_app (goodIn_c (glX11_readLetter_3 _ (List.mem_of_getElem? (i := 18) rfl)) (goodIn_c (glX11_readLetter_3 _ (List.mem_of_getElem? (i := 19) rfl)) (goodIn_c (glX11_readLetter_3 _ (List.mem_of_getElem? (i := 20) rfl)) (goodIn_c (glX11_readLetter_0 _ (List.mem_of_getElem? (i := 7) rfl)) (goodIn_n))))) ggX11_readLetter_X7_number
set_option maxRecDepth 20000 in
theorem glX11_readLetter_4 : GoodIn wsX11_readLetter (wsX11_readLetter_r5) := goodIn_sub (fun _ h => List.mem_cons_of_mem _ (List.mem_append_left _ (List.mem_append_left _ (List.mem_append_left _ (List.mem_append_right _ (List.mem_append_right _ (List.mem_append_right _ (List.mem_append_right _ (h))))))))) (by decide +kernel)
set_option maxRecDepth 20000 in
theorem glX11_readLetter_6 : GoodIn wsX11_readLetter (wsX20) := goodIn_sub (fun _ h => List.mem_cons_of_mem _ (List.mem_append_left _ (List.mem_append_right _ (h)))) ag_wsX20
set_option maxRecDepth 20000 in
theorem ggX11_readLetter_X2_addLine : GoodIn wsX11_readLetter wsX2_addLine := goodIn_c (glX11_readLetter_4 _ (List.mem_of_getElem? (i := 2) rfl)) (goodIn_app (goodIn_c (glX11_readLetter_4 _ (List.mem_of_getElem? (i := 3) rfl)) (goodIn_c (glX11_readLetter_4 _ (List.mem_of_getElem? (i := 4) rfl)) (goodIn_c (glX11_readLetter_4 _ (List.mem_of_getElem? (i := 5) rfl)) (goodIn_n)))) (glX11_readLetter_6))
set_option maxRecDepth 20000 in
theorem gX11_readLetter_X2_addLine : GoodIn wsX11_readLetter (wsV RX11 445 RX2 yX2_addLine wsX2_addLine) := goodIn_app (goodIn_c (glX11_readLetter_3 _ (List.mem_of_getElem? (i := 22) rfl)) (goodIn_c (glX11_readLetter_3 _ (List.mem_of_getElem? (i := 23) rfl)) (goodIn_c (glX11_readLetter_4 _ (List.mem_of_getElem? (i := 0) rfl)) (goodIn_c (glX11_readLetter_4 _ (List.mem_of_getElem? (i := 1) rfl)) (goodIn_n))))) ggX11_readLetter_X2_addLine
set_option maxRecDepth 20000 in
theorem ggX11_readLetter_X7_takesSign : GoodIn wsX11_readLetter wsX7_takesSign := goodIn_c (glX11_readLetter_4 _ (List.mem_of_getElem? (i := 9) rfl)) (goodIn_app (goodIn_c (glX11_readLetter_0 _ (List.mem_of_getElem? (i := 13) rfl)) (goodIn_c (glX11_readLetter_0 _ (List.mem_of_getElem? (i := 18) rfl)) (goodIn_c (glX11_readLetter_0 _ (List.mem_of_getElem? (i := 19) rfl)) (goodIn_c (glX11_readLetter_1 _ (List.mem_of_getElem? (i := 5) rfl)) (goodIn_c (glX11_readLetter_1 _ (List.mem_of_getElem? (i := 6) rfl)) (goodIn_c (glX11_readLetter_1 _ (List.mem_of_getElem? (i := 7) rfl)) (goodIn_c (glX11_readLetter_0 _ (List.mem_of_getElem? (i := 7) rfl)) (goodIn_c (glX11_readLetter_1 _ (List.mem_of_getElem? (i := 8) rfl)) (goodIn_n))))))))) (glX11_readLetter_7))
set_option maxRecDepth 20000 in
theorem gX11_readLetter_X7_takesSign : GoodIn wsX11_readLetter (wsV RX11 160 RX7 yX7_takesSign wsX7_takesSign) := goodIn_app (goodIn_c (glX11_readLetter_4 _ (List.mem_of_getElem? (i := 6) rfl)) (goodIn_c (glX11_readLetter_4 _ (List.mem_of_getElem? (i := 7) rfl)) (goodIn_c (glX11_readLetter_4 _ (List.mem_of_getElem? (i := 8) rfl)) (goodIn_c (glX11_readLetter_0 _ (List.mem_of_getElem? (i := 7) rfl)) (goodIn_n))))) ggX11_readLetter_X7_takesSign
set_option maxRecDepth 20000 in
theorem ggX11_readLetter_X7_takesWord : GoodIn wsX11_readLetter wsX7_takesWord := goodIn_c (glX11_readLetter_1 _ (List.mem_of_getElem? (i := 16) rfl)) (goodIn_app (goodIn_app (goodIn_c (glX11_readLetter_0 _ (List.mem_of_getElem? (i := 13) rfl)) (goodIn_c (glX11_readLetter_0 _ (List.mem_of_getElem? (i := 18) rfl)) (goodIn_c (glX11_readLetter_0 _ (List.mem_of_getElem? (i := 19) rfl)) (goodIn_c (glX11_readLetter_1 _ (List.mem_of_getElem? (i := 17) rfl)) (goodIn_c (glX11_readLetter_1 _ (List.mem_of_getElem? (i := 18) rfl)) (goodIn_c (glX11_readLetter_1 _ (List.mem_of_getElem? (i := 19) rfl)) (goodIn_c (glX11_readLetter_1 _ (List.mem_of_getElem? (i := 20) rfl)) (goodIn_c (glX11_readLetter_1 _ (List.mem_of_getElem? (i := 21) rfl)) (goodIn_c (glX11_readLetter_1 _ (List.mem_of_getElem? (i := 22) rfl)) (goodIn_c (glX11_readLetter_1 _ (List.mem_of_getElem? (i := 23) rfl)) (goodIn_c (glX11_readLetter_2 _ (List.mem_of_getElem? (i := 0) rfl)) (goodIn_c (glX11_readLetter_2 _ (List.mem_of_getElem? (i := 1) rfl)) (goodIn_c (glX11_readLetter_2 _ (List.mem_of_getElem? (i := 2) rfl)) (goodIn_c (glX11_readLetter_2 _ (List.mem_of_getElem? (i := 3) rfl)) (goodIn_c (glX11_readLetter_2 _ (List.mem_of_getElem? (i := 4) rfl)) (goodIn_c (glX11_readLetter_0 _ (List.mem_of_getElem? (i := 14) rfl)) (goodIn_c (glX11_readLetter_0 _ (List.mem_of_getElem? (i := 15) rfl)) (goodIn_c (glX11_readLetter_0 _ (List.mem_of_getElem? (i := 16) rfl)) (goodIn_c (glX11_readLetter_0 _ (List.mem_of_getElem? (i := 7) rfl)) (goodIn_c (glX11_readLetter_0 _ (List.mem_of_getElem? (i := 17) rfl)) (goodIn_c (glX11_readLetter_2 _ (List.mem_of_getElem? (i := 5) rfl)) (goodIn_c (glX11_readLetter_2 _ (List.mem_of_getElem? (i := 6) rfl)) (goodIn_c (glX11_readLetter_2 _ (List.mem_of_getElem? (i := 7) rfl)) (goodIn_c (glX11_readLetter_2 _ (List.mem_of_getElem? (i := 8) rfl)) (goodIn_n))))))))))))))))))))))))) (goodIn_app (goodIn_c (glX11_readLetter_2 _ (List.mem_of_getElem? (i := 9) rfl)) (goodIn_c (glX11_readLetter_2 _ (List.mem_of_getElem? (i := 10) rfl)) (goodIn_c (glX11_readLetter_2 _ (List.mem_of_getElem? (i := 11) rfl)) (goodIn_c (glX11_readLetter_2 _ (List.mem_of_getElem? (i := 12) rfl)) (goodIn_c (glX11_readLetter_2 _ (List.mem_of_getElem? (i := 13) rfl)) (goodIn_c (glX11_readLetter_2 _ (List.mem_of_getElem? (i := 14) rfl)) (goodIn_c (glX11_readLetter_2 _ (List.mem_of_getElem? (i := 15) rfl)) (goodIn_c (glX11_readLetter_2 _ (List.mem_of_getElem? (i := 16) rfl)) (goodIn_c (glX11_readLetter_2 _ (List.mem_of_getElem? (i := 17) rfl)) (goodIn_c (glX11_readLetter_2 _ (List.mem_of_getElem? (i := 18) rfl)) (goodIn_c (glX11_readLetter_2 _ (List.mem_of_getElem? (i := 19) rfl)) (goodIn_c (glX11_readLetter_2 _ (List.mem_of_getElem? (i := 20) rfl)) (goodIn_c (glX11_readLetter_2 _ (List.mem_of_getElem? (i := 21) rfl)) (goodIn_c (glX11_readLetter_2 _ (List.mem_of_getElem? (i := 22) rfl)) (goodIn_c (glX11_readLetter_2 _ (List.mem_of_getElem? (i := 23) rfl)) (goodIn_c (glX11_readLetter_3 _ (List.mem_of_getElem? (i := 0) rfl)) (goodIn_c (glX11_readLetter_3 _ (List.mem_of_getElem? (i := 1) rfl)) (goodIn_c (glX11_readLetter_3 _ (List.mem_of_getElem? (i := 2) rfl)) (goodIn_c (glX11_readLetter_3 _ (List.mem_of_getElem? (i := 3) rfl)) (goodIn_c (glX11_readLetter_3 _ (List.mem_of_getElem? (i := 4) rfl)) (goodIn_c (glX11_readLetter_3 _ (List.mem_of_getElem? (i := 5) rfl)) (goodIn_c (glX11_readLetter_3 _ (List.mem_of_getElem? (i := 6) rfl)) (goodIn_c (glX11_readLetter_3 _ (List.mem_of_getElem? (i := 7) rfl)) (goodIn_c (glX11_readLetter_3 _ (List.mem_of_getElem? (i := 8) rfl)) (goodIn_n))))))))))))))))))))))))) (goodIn_c (glX11_readLetter_3 _ (List.mem_of_getElem? (i := 9) rfl)) (goodIn_c (glX11_readLetter_3 _ (List.mem_of_getElem? (i := 10) rfl)) (goodIn_c (glX11_readLetter_3 _ (List.mem_of_getElem? (i := 11) rfl)) (goodIn_c (glX11_readLetter_3 _ (List.mem_of_getElem? (i := 12) rfl)) (goodIn_c (glX11_readLetter_3 _ (List.mem_of_getElem? (i := 13) rfl)) (goodIn_c (glX11_readLetter_3 _ (List.mem_of_getElem? (i := 14) rfl)) (goodIn_c (glX11_readLetter_3 _ (List.mem_of_getElem? (i := 15) rfl)) (goodIn_c (glX11_readLetter_3 _ (List.mem_of_getElem? (i := 16) rfl)) (goodIn_c (glX11_readLetter_3 _ (List.mem_of_getElem? (i := 17) rfl)) (goodIn_c (glX11_readLetter_1 _ (List.mem_of_getElem? (i := 5) rfl)) (goodIn_c (glX11_readLetter_1 _ (List.mem_of_getElem? (i := 6) rfl)) (goodIn_c (glX11_readLetter_1 _ (List.mem_of_getElem? (i := 7) rfl)) (goodIn_c (glX11_readLetter_1 _ (List.mem_of_getElem? (i := 8) rfl)) (goodIn_n)))))))))))))))) (glX11_readLetter_7))
set_option maxRecDepth 20000 in
theorem gX11_readLetter_X7_takesWord : GoodIn wsX11_readLetter (wsV RX11 403 RX7 yX7_takesWord wsX7_takesWord) := goodIn_app (goodIn_c (glX11_readLetter_4 _ (List.mem_of_getElem? (i := 10) rfl)) (goodIn_c (glX11_readLetter_1 _ (List.mem_of_getElem? (i := 14) rfl)) (goodIn_c (glX11_readLetter_1 _ (List.mem_of_getElem? (i := 15) rfl)) (goodIn_c (glX11_readLetter_0 _ (List.mem_of_getElem? (i := 7) rfl)) (goodIn_n))))) ggX11_readLetter_X7_takesWord
theorem dX11_readLetter_0 : decode cX11_readLetter 0 = .ok (.iconst 1, 1) := qdE4 (by decide +kernel)
theorem dX11_readLetter_1 : decode cX11_readLetter 1 = .ok (.istore_n 2, 1) := qdE61 (by decide +kernel)
theorem dX11_readLetter_2 : decode cX11_readLetter 2 = .ok (.iconst 0, 1) := qdE3 (by decide +kernel)
theorem dX11_readLetter_3 : decode cX11_readLetter 3 = .ok (.istore_n 3, 1) := qdE62 (by decide +kernel)
theorem dX11_readLetter_4 : decode cX11_readLetter 4 = .ok (.iload_n 3, 1) := qdE29 (by decide +kernel)
theorem dX11_readLetter_5 : decode cX11_readLetter 5 = .ok (.bipush 8, 2) := qdE16 (by decide +kernel)
theorem dX11_readLetter_7 : decode cX11_readLetter 7 = .ok (.if_icmp .ge 74, 3) := qdE162 (by decide +kernel)
theorem dX11_readLetter_10 : decode cX11_readLetter 10 = .ok (.iload_n 2, 1) := qdE28 (by decide +kernel)
theorem dX11_readLetter_11 : decode cX11_readLetter 11 = .ok (.ifCond .eq 70, 3) := qdE153 (by decide +kernel)
theorem dX11_readLetter_14 : decode cX11_readLetter 14 = .ok (.aload_n 0, 1) := qdE42 (by decide +kernel)
theorem dX11_readLetter_15 : decode cX11_readLetter 15 = .ok (.getfield 10, 3) := qdE180 (by decide +kernel)
theorem dX11_readLetter_18 : decode cX11_readLetter 18 = .ok (.invokevirtual 440, 3) := qdE182 (by decide +kernel)
theorem dX11_readLetter_21 : decode cX11_readLetter 21 = .ok (.istore 4, 2) := qdE54 (by decide +kernel)
theorem dX11_readLetter_23 : decode cX11_readLetter 23 = .ok (.aload_n 0, 1) := qdE42 (by decide +kernel)
theorem dX11_readLetter_24 : decode cX11_readLetter 24 = .ok (.getfield 10, 3) := qdE180 (by decide +kernel)
theorem dX11_readLetter_27 : decode cX11_readLetter 27 = .ok (.ldc_w 443, 3) := qdE19 (by decide +kernel)
theorem dX11_readLetter_30 : decode cX11_readLetter 30 = .ok (.invokevirtual 437, 3) := qdE182 (by decide +kernel)
theorem dX11_readLetter_33 : decode cX11_readLetter 33 = .ok (.aload_n 1, 1) := qdE43 (by decide +kernel)
theorem dX11_readLetter_34 : decode cX11_readLetter 34 = .ok (.iload 4, 2) := qdE21 (by decide +kernel)
theorem dX11_readLetter_36 : decode cX11_readLetter 36 = .ok (.aload_n 0, 1) := qdE42 (by decide +kernel)
theorem dX11_readLetter_37 : decode cX11_readLetter 37 = .ok (.getfield 10, 3) := qdE180 (by decide +kernel)
theorem dX11_readLetter_40 : decode cX11_readLetter 40 = .ok (.iconst 1, 1) := qdE4 (by decide +kernel)
theorem dX11_readLetter_41 : decode cX11_readLetter 41 = .ok (.bipush 99, 2) := qdE16 (by decide +kernel)
theorem dX11_readLetter_43 : decode cX11_readLetter 43 = .ok (.invokevirtual 422, 3) := qdE182 (by decide +kernel)
theorem dX11_readLetter_46 : decode cX11_readLetter 46 = .ok (.invokevirtual 445, 3) := qdE182 (by decide +kernel)
theorem dX11_readLetter_49 : decode cX11_readLetter 49 = .ok (.iload_n 3, 1) := qdE29 (by decide +kernel)
theorem dX11_readLetter_50 : decode cX11_readLetter 50 = .ok (.iconst 1, 1) := qdE4 (by decide +kernel)
theorem dX11_readLetter_51 : decode cX11_readLetter 51 = .ok (.iadd, 1) := qdE96 (by decide +kernel)
theorem dX11_readLetter_52 : decode cX11_readLetter 52 = .ok (.bipush 8, 2) := qdE16 (by decide +kernel)
theorem dX11_readLetter_54 : decode cX11_readLetter 54 = .ok (.if_icmp .ge 19, 3) := qdE162 (by decide +kernel)
theorem dX11_readLetter_57 : decode cX11_readLetter 57 = .ok (.aload_n 0, 1) := qdE42 (by decide +kernel)
theorem dX11_readLetter_58 : decode cX11_readLetter 58 = .ok (.getfield 10, 3) := qdE180 (by decide +kernel)
theorem dX11_readLetter_61 : decode cX11_readLetter 61 = .ok (.bipush 44, 2) := qdE16 (by decide +kernel)
theorem dX11_readLetter_63 : decode cX11_readLetter 63 = .ok (.invokevirtual 160, 3) := qdE182 (by decide +kernel)
theorem dX11_readLetter_66 : decode cX11_readLetter 66 = .ok (.ifCond .eq 7, 3) := qdE153 (by decide +kernel)
theorem dX11_readLetter_69 : decode cX11_readLetter 69 = .ok (.iconst 1, 1) := qdE4 (by decide +kernel)
theorem dX11_readLetter_70 : decode cX11_readLetter 70 = .ok (.goto 4, 3) := qdE167 (by decide +kernel)
theorem dX11_readLetter_73 : decode cX11_readLetter 73 = .ok (.iconst 0, 1) := qdE3 (by decide +kernel)
theorem dX11_readLetter_74 : decode cX11_readLetter 74 = .ok (.istore_n 2, 1) := qdE61 (by decide +kernel)
theorem dX11_readLetter_75 : decode cX11_readLetter 75 = .ok (.iinc 3 1, 3) := qdE132 (by decide +kernel)
theorem dX11_readLetter_78 : decode cX11_readLetter 78 = .ok (.goto (-74), 3) := qdE167 (by decide +kernel)
theorem dX11_readLetter_81 : decode cX11_readLetter 81 = .ok (.aload_n 0, 1) := qdE42 (by decide +kernel)
theorem dX11_readLetter_82 : decode cX11_readLetter 82 = .ok (.getfield 10, 3) := qdE180 (by decide +kernel)
theorem dX11_readLetter_85 : decode cX11_readLetter 85 = .ok (.ldc_w 449, 3) := qdE19 (by decide +kernel)
theorem dX11_readLetter_88 : decode cX11_readLetter 88 = .ok (.invokevirtual 437, 3) := qdE182 (by decide +kernel)
theorem dX11_readLetter_91 : decode cX11_readLetter 91 = .ok (.aload_n 1, 1) := qdE43 (by decide +kernel)
theorem dX11_readLetter_92 : decode cX11_readLetter 92 = .ok (.aload_n 0, 1) := qdE42 (by decide +kernel)
theorem dX11_readLetter_93 : decode cX11_readLetter 93 = .ok (.getfield 10, 3) := qdE180 (by decide +kernel)
theorem dX11_readLetter_96 : decode cX11_readLetter 96 = .ok (.iconst 0, 1) := qdE3 (by decide +kernel)
theorem dX11_readLetter_97 : decode cX11_readLetter 97 = .ok (.ldc_w 450, 3) := qdE19 (by decide +kernel)
theorem dX11_readLetter_100 : decode cX11_readLetter 100 = .ok (.invokevirtual 422, 3) := qdE182 (by decide +kernel)
theorem dX11_readLetter_103 : decode cX11_readLetter 103 = .ok (.putfield 234, 3) := qdE181 (by decide +kernel)
theorem dX11_readLetter_106 : decode cX11_readLetter 106 = .ok (.aload_n 1, 1) := qdE43 (by decide +kernel)
theorem dX11_readLetter_107 : decode cX11_readLetter 107 = .ok (.aload_n 0, 1) := qdE42 (by decide +kernel)
theorem dX11_readLetter_108 : decode cX11_readLetter 108 = .ok (.getfield 10, 3) := qdE180 (by decide +kernel)
theorem dX11_readLetter_111 : decode cX11_readLetter 111 = .ok (.ldc_w 451, 3) := qdE19 (by decide +kernel)
theorem dX11_readLetter_114 : decode cX11_readLetter 114 = .ok (.invokevirtual 403, 3) := qdE182 (by decide +kernel)
theorem dX11_readLetter_117 : decode cX11_readLetter 117 = .ok (.ifCond .eq 17, 3) := qdE153 (by decide +kernel)
theorem dX11_readLetter_120 : decode cX11_readLetter 120 = .ok (.aload_n 0, 1) := qdE42 (by decide +kernel)
theorem dX11_readLetter_121 : decode cX11_readLetter 121 = .ok (.getfield 10, 3) := qdE180 (by decide +kernel)
theorem dX11_readLetter_124 : decode cX11_readLetter 124 = .ok (.iconst 0, 1) := qdE3 (by decide +kernel)
theorem dX11_readLetter_125 : decode cX11_readLetter 125 = .ok (.ldc_w 450, 3) := qdE19 (by decide +kernel)
theorem dX11_readLetter_128 : decode cX11_readLetter 128 = .ok (.invokevirtual 422, 3) := qdE182 (by decide +kernel)
theorem dX11_readLetter_131 : decode cX11_readLetter 131 = .ok (.goto 7, 3) := qdE167 (by decide +kernel)
theorem dX11_readLetter_134 : decode cX11_readLetter 134 = .ok (.aload_n 1, 1) := qdE43 (by decide +kernel)
theorem dX11_readLetter_135 : decode cX11_readLetter 135 = .ok (.getfield 234, 3) := qdE180 (by decide +kernel)
theorem dX11_readLetter_138 : decode cX11_readLetter 138 = .ok (.putfield 237, 3) := qdE181 (by decide +kernel)
theorem dX11_readLetter_141 : decode cX11_readLetter 141 = .ok (.return_, 1) := qdE177 (by decide +kernel)
set_option maxRecDepth 20000 in
theorem glX11_mend_0 : GoodIn wsX11_mend (wsX11_mend_r1) := goodIn_sub (fun _ h => List.mem_cons_of_mem _ (List.mem_append_left _ (List.mem_append_left _ (List.mem_append_left _ (List.mem_append_left _ (List.mem_append_left _ (h))))))) (by decide +kernel)
set_option maxRecDepth 20000 in
theorem glX11_mend_1 : GoodIn wsX11_mend (wsX11_mend_r2) := goodIn_sub (fun _ h => List.mem_cons_of_mem _ (List.mem_append_left _ (List.mem_append_left _ (List.mem_append_left _ (List.mem_append_left _ (List.mem_append_right _ (List.mem_append_left _ (h)))))))) (by decide +kernel)
set_option maxRecDepth 20000 in
theorem glX11_mend_3 : GoodIn wsX11_mend (wsX20) := goodIn_sub (fun _ h => List.mem_cons_of_mem _ (List.mem_append_left _ (List.mem_append_left _ (List.mem_append_left _ (List.mem_append_right _ (h)))))) ag_wsX20
set_option maxRecDepth 20000 in
theorem glX11_mend_4 : GoodIn wsX11_mend (wsX110) := goodIn_sub (fun _ h => List.mem_cons_of_mem _ (List.mem_append_left _ (List.mem_append_left _ (List.mem_append_right _ (h))))) ag_wsX110
set_option maxRecDepth 20000 in
theorem glX11_mend_5 : GoodIn wsX11_mend (wsX00) := goodIn_sub (fun _ h => List.mem_cons_of_mem _ (List.mem_append_left _ (List.mem_append_right _ (h)))) ag_wsX00
set_option maxRecDepth 20000 in
theorem glX11_mend_6 : GoodIn wsX11_mend (wsX80) := goodIn_sub (fun _ h => List.mem_cons_of_mem _ (List.mem_append_right _ (h))) ag_wsX80
set_option maxRecDepth 20000 in
theorem ggX11_mend_X11_totalBut : GoodIn wsX11_mend wsX11_totalBut := goodIn_c (glX11_mend_0 _ (List.mem_of_getElem? (i := 10) rfl)) (goodIn_app (goodIn_app (goodIn_app (goodIn_app (goodIn_app (goodIn_c (glX11_mend_0 _ (List.mem_of_getElem? (i := 11) rfl)) (goodIn_c (glX11_mend_0 _ (List.mem_of_getElem? (i := 2) rfl)) (goodIn_c (glX11_mend_0 _ (List.mem_of_getElem? (i := 12) rfl)) (goodIn_c (glX11_mend_0 _ (List.mem_of_getElem? (i := 13) rfl)) (goodIn_c (glX11_mend_0 _ (List.mem_of_getElem? (i := 14) rfl)) (goodIn_c (glX11_mend_0 _ (List.mem_of_getElem? (i := 15) rfl)) (goodIn_c (glX11_mend_0 _ (List.mem_of_getElem? (i := 16) rfl)) (goodIn_c (glX11_mend_0 _ (List.mem_of_getElem? (i := 9) rfl)) (goodIn_c (glX11_mend_0 _ (List.mem_of_getElem? (i := 17) rfl)) (goodIn_c (glX11_mend_0 _ (List.mem_of_getElem? (i := 18) rfl)) (goodIn_c (glX11_mend_0 _ (List.mem_of_getElem? (i := 19) rfl)) (goodIn_c (glX11_mend_0 _ (List.mem_of_getElem? (i := 20) rfl)) (goodIn_c (glX11_mend_0 _ (List.mem_of_getElem? (i := 21) rfl)) (goodIn_c (glX11_mend_0 _ (List.mem_of_getElem? (i := 22) rfl)) (goodIn_c (glX11_mend_0 _ (List.mem_of_getElem? (i := 23) rfl)) (goodIn_c (glX11_mend_1 _ (List.mem_of_getElem? (i := 0) rfl)) (goodIn_c (glX11_mend_1 _ (List.mem_of_getElem? (i := 1) rfl)) (goodIn_c (glX11_mend_1 _ (List.mem_of_getElem? (i := 2) rfl)) (goodIn_c (glX11_mend_1 _ (List.mem_of_getElem? (i := 3) rfl)) (goodIn_c (glX11_mend_1 _ (List.mem_of_getElem? (i := 4) rfl)) (goodIn_c (glX11_mend_1 _ (List.mem_of_getElem? (i := 5) rfl)) (goodIn_c (glX11_mend_1 _ (List.mem_of_getElem? (i := 6) rfl)) (goodIn_c (glX11_mend_1 _ (List.mem_of_getElem? (i := 7) rfl)) (goodIn_c (glX11_mend_1 _ (List.mem_of_getElem? (i := 8) rfl)) (goodIn_n))))))))))))))))))))))))) (goodIn_c (glX11_mend_1 _ (List.mem_of_getElem? (i := 9) rfl)) (goodIn_c (glX11_mend_1 _ (List.mem_of_getElem? (i := 10) rfl)) (goodIn_c (glX11_mend_1 _ (List.mem_of_getElem? (i := 11) rfl)) (goodIn_c (glX11_mend_1 _ (List.mem_of_getElem? (i := 12) rfl)) (goodIn_c (glX11_mend_1 _ (List.mem_of_getElem? (i := 13) rfl)) (goodIn_n))))))) (glX11_mend_3)) (glX11_mend_4)) (glX11_mend_5)) (glX11_mend_6))
set_option maxRecDepth 20000 in
theorem gX11_mend_X11_totalBut : GoodIn wsX11_mend (wsV RX11 452 RX11 yX11_totalBut wsX11_totalBut) := goodIn_app (goodIn_c (glX11_mend_0 _ (List.mem_of_getElem? (i := 6) rfl)) (goodIn_c (glX11_mend_0 _ (List.mem_of_getElem? (i := 7) rfl)) (goodIn_c (glX11_mend_0 _ (List.mem_of_getElem? (i := 8) rfl)) (goodIn_c (glX11_mend_0 _ (List.mem_of_getElem? (i := 9) rfl)) (goodIn_n))))) ggX11_mend_X11_totalBut
set_option maxRecDepth 20000 in
theorem ggX11_mend_X11_findMendings : GoodIn wsX11_mend wsX11_findMendings := goodIn_c (glX11_mend_1 _ (List.mem_of_getElem? (i := 17) rfl)) (goodIn_app (goodIn_app (goodIn_app (goodIn_app (goodIn_app (goodIn_c (glX11_mend_0 _ (List.mem_of_getElem? (i := 11) rfl)) (goodIn_c (glX11_mend_0 _ (List.mem_of_getElem? (i := 18) rfl)) (goodIn_c (glX11_mend_1 _ (List.mem_of_getElem? (i := 18) rfl)) (goodIn_c (glX11_mend_1 _ (List.mem_of_getElem? (i := 19) rfl)) (goodIn_c (glX11_mend_0 _ (List.mem_of_getElem? (i := 12) rfl)) (goodIn_c (glX11_mend_0 _ (List.mem_of_getElem? (i := 13) rfl)) (goodIn_c (glX11_mend_0 _ (List.mem_of_getElem? (i := 0) rfl)) (goodIn_c (glX11_mend_1 _ (List.mem_of_getElem? (i := 20) rfl)) (goodIn_c (glX11_mend_0 _ (List.mem_of_getElem? (i := 2) rfl)) (goodIn_c (glX11_mend_0 _ (List.mem_of_getElem? (i := 1) rfl)) (goodIn_c (glX11_mend_0 _ (List.mem_of_getElem? (i := 3) rfl)) (goodIn_c (glX11_mend_0 _ (List.mem_of_getElem? (i := 4) rfl)) (goodIn_c (glX11_mend_0 _ (List.mem_of_getElem? (i := 6) rfl)) (goodIn_c (glX11_mend_0 _ (List.mem_of_getElem? (i := 7) rfl)) (goodIn_c (glX11_mend_0 _ (List.mem_of_getElem? (i := 8) rfl)) (goodIn_c (glX11_mend_0 _ (List.mem_of_getElem? (i := 9) rfl)) (goodIn_c (glX11_mend_0 _ (List.mem_of_getElem? (i := 10) rfl)) (goodIn_c (glX11_mend_0 _ (List.mem_of_getElem? (i := 14) rfl)) (goodIn_c (glX11_mend_0 _ (List.mem_of_getElem? (i := 15) rfl)) (goodIn_c (glX11_mend_0 _ (List.mem_of_getElem? (i := 16) rfl)) (goodIn_c (glX11_mend_0 _ (List.mem_of_getElem? (i := 17) rfl)) (goodIn_c (glX11_mend_0 _ (List.mem_of_getElem? (i := 19) rfl)) (goodIn_c (glX11_mend_0 _ (List.mem_of_getElem? (i := 20) rfl)) (goodIn_c (glX11_mend_0 _ (List.mem_of_getElem? (i := 21) rfl)) (goodIn_n))))))))))))))))))))))))) (goodIn_c (glX11_mend_0 _ (List.mem_of_getElem? (i := 22) rfl)) (goodIn_c (glX11_mend_0 _ (List.mem_of_getElem? (i := 23) rfl)) (goodIn_c (glX11_mend_1 _ (List.mem_of_getElem? (i := 0) rfl)) (goodIn_c (glX11_mend_1 _ (List.mem_of_getElem? (i := 1) rfl)) (goodIn_c (glX11_mend_1 _ (List.mem_of_getElem? (i := 2) rfl)) (goodIn_c (glX11_mend_1 _ (List.mem_of_getElem? (i := 3) rfl)) (goodIn_c (glX11_mend_1 _ (List.mem_of_getElem? (i := 4) rfl)) (goodIn_c (glX11_mend_1 _ (List.mem_of_getElem? (i := 5) rfl)) (goodIn_c (glX11_mend_1 _ (List.mem_of_getElem? (i := 6) rfl)) (goodIn_c (glX11_mend_1 _ (List.mem_of_getElem? (i := 7) rfl)) (goodIn_c (glX11_mend_1 _ (List.mem_of_getElem? (i := 8) rfl)) (goodIn_c (glX11_mend_1 _ (List.mem_of_getElem? (i := 9) rfl)) (goodIn_c (glX11_mend_1 _ (List.mem_of_getElem? (i := 10) rfl)) (goodIn_c (glX11_mend_1 _ (List.mem_of_getElem? (i := 11) rfl)) (goodIn_c (glX11_mend_1 _ (List.mem_of_getElem? (i := 12) rfl)) (goodIn_c (glX11_mend_1 _ (List.mem_of_getElem? (i := 13) rfl)) (goodIn_c (glX11_mend_1 _ (List.mem_of_getElem? (i := 21) rfl)) (goodIn_c (glX11_mend_1 _ (List.mem_of_getElem? (i := 22) rfl)) (goodIn_c (glX11_mend_1 _ (List.mem_of_getElem? (i := 23) rfl)) (goodIn_n))))))))))))))))))))) (glX11_mend_3)) (glX11_mend_4)) (glX11_mend_5)) (glX11_mend_6))
set_option maxRecDepth 20000 in
theorem gX11_mend_X11_findMendings : GoodIn wsX11_mend (wsV RX11 456 RX11 yX11_findMendings wsX11_findMendings) := goodIn_app (goodIn_c (glX11_mend_1 _ (List.mem_of_getElem? (i := 14) rfl)) (goodIn_c (glX11_mend_1 _ (List.mem_of_getElem? (i := 15) rfl)) (goodIn_c (glX11_mend_1 _ (List.mem_of_getElem? (i := 16) rfl)) (goodIn_c (glX11_mend_0 _ (List.mem_of_getElem? (i := 9) rfl)) (goodIn_n))))) ggX11_mend_X11_findMendings
set_option maxRecDepth 20000 in
theorem glX11_mend_2 : GoodIn wsX11_mend (wsX11_mend_r3) := goodIn_sub (fun _ h => List.mem_cons_of_mem _ (List.mem_append_left _ (List.mem_append_left _ (List.mem_append_left _ (List.mem_append_left _ (List.mem_append_right _ (List.mem_append_right _ (h)))))))) (by decide +kernel)
set_option maxRecDepth 20000 in
theorem ggX11_mend_X11_knownLines : GoodIn wsX11_mend wsX11_knownLines := goodIn_c (glX11_mend_2 _ (List.mem_of_getElem? (i := 3) rfl)) (goodIn_app (goodIn_app (goodIn_app (goodIn_app (goodIn_app (goodIn_c (glX11_mend_0 _ (List.mem_of_getElem? (i := 11) rfl)) (goodIn_c (glX11_mend_0 _ (List.mem_of_getElem? (i := 2) rfl)) (goodIn_c (glX11_mend_0 _ (List.mem_of_getElem? (i := 14) rfl)) (goodIn_c (glX11_mend_0 _ (List.mem_of_getElem? (i := 15) rfl)) (goodIn_c (glX11_mend_0 _ (List.mem_of_getElem? (i := 16) rfl)) (goodIn_c (glX11_mend_0 _ (List.mem_of_getElem? (i := 9) rfl)) (goodIn_c (glX11_mend_0 _ (List.mem_of_getElem? (i := 17) rfl)) (goodIn_c (glX11_mend_0 _ (List.mem_of_getElem? (i := 18) rfl)) (goodIn_c (glX11_mend_0 _ (List.mem_of_getElem? (i := 12) rfl)) (goodIn_c (glX11_mend_0 _ (List.mem_of_getElem? (i := 19) rfl)) (goodIn_c (glX11_mend_0 _ (List.mem_of_getElem? (i := 20) rfl)) (goodIn_c (glX11_mend_0 _ (List.mem_of_getElem? (i := 21) rfl)) (goodIn_c (glX11_mend_0 _ (List.mem_of_getElem? (i := 22) rfl)) (goodIn_c (glX11_mend_0 _ (List.mem_of_getElem? (i := 23) rfl)) (goodIn_c (glX11_mend_1 _ (List.mem_of_getElem? (i := 0) rfl)) (goodIn_c (glX11_mend_1 _ (List.mem_of_getElem? (i := 1) rfl)) (goodIn_c (glX11_mend_1 _ (List.mem_of_getElem? (i := 2) rfl)) (goodIn_c (glX11_mend_1 _ (List.mem_of_getElem? (i := 3) rfl)) (goodIn_c (glX11_mend_1 _ (List.mem_of_getElem? (i := 4) rfl)) (goodIn_c (glX11_mend_1 _ (List.mem_of_getElem? (i := 5) rfl)) (goodIn_c (glX11_mend_1 _ (List.mem_of_getElem? (i := 6) rfl)) (goodIn_c (glX11_mend_1 _ (List.mem_of_getElem? (i := 7) rfl)) (goodIn_c (glX11_mend_1 _ (List.mem_of_getElem? (i := 8) rfl)) (goodIn_c (glX11_mend_1 _ (List.mem_of_getElem? (i := 9) rfl)) (goodIn_n))))))))))))))))))))))))) (goodIn_c (glX11_mend_1 _ (List.mem_of_getElem? (i := 10) rfl)) (goodIn_c (glX11_mend_1 _ (List.mem_of_getElem? (i := 11) rfl)) (goodIn_c (glX11_mend_1 _ (List.mem_of_getElem? (i := 12) rfl)) (goodIn_c (glX11_mend_1 _ (List.mem_of_getElem? (i := 13) rfl)) (goodIn_n)))))) (glX11_mend_3)) (glX11_mend_4)) (glX11_mend_5)) (glX11_mend_6))
set_option maxRecDepth 20000 in
theorem gX11_mend_X11_knownLines : GoodIn wsX11_mend (wsV RX11 468 RX11 yX11_knownLines wsX11_knownLines) := goodIn_app (goodIn_c (glX11_mend_2 _ (List.mem_of_getElem? (i := 0) rfl)) (goodIn_c (glX11_mend_2 _ (List.mem_of_getElem? (i := 1) rfl)) (goodIn_c (glX11_mend_2 _ (List.mem_of_getElem? (i := 2) rfl)) (goodIn_c (glX11_mend_0 _ (List.mem_of_getElem? (i := 9) rfl)) (goodIn_n))))) ggX11_mend_X11_knownLines
theorem dX11_mend_0 : decode cX11_mend 0 = .ok (.aload_n 0, 1) := qdE42 (by decide +kernel)
theorem dX11_mend_1 : decode cX11_mend 1 = .ok (.aload_n 1, 1) := qdE43 (by decide +kernel)
theorem dX11_mend_2 : decode cX11_mend 2 = .ok (.iconst (-1), 1) := qdE2 (by decide +kernel)
theorem dX11_mend_3 : decode cX11_mend 3 = .ok (.invokevirtual 452, 3) := qdE182 (by decide +kernel)
theorem dX11_mend_6 : decode cX11_mend 6 = .ok (.aload_n 1, 1) := qdE43 (by decide +kernel)
theorem dX11_mend_7 : decode cX11_mend 7 = .ok (.getfield 234, 3) := qdE180 (by decide +kernel)
theorem dX11_mend_10 : decode cX11_mend 10 = .ok (.if_icmp .ne 7, 3) := qdE160 (by decide +kernel)
theorem dX11_mend_13 : decode cX11_mend 13 = .ok (.iconst 1, 1) := qdE4 (by decide +kernel)
theorem dX11_mend_14 : decode cX11_mend 14 = .ok (.goto 4, 3) := qdE167 (by decide +kernel)
theorem dX11_mend_17 : decode cX11_mend 17 = .ok (.iconst 0, 1) := qdE3 (by decide +kernel)
theorem dX11_mend_18 : decode cX11_mend 18 = .ok (.istore_n 2, 1) := qdE61 (by decide +kernel)
theorem dX11_mend_19 : decode cX11_mend 19 = .ok (.iload_n 2, 1) := qdE28 (by decide +kernel)
theorem dX11_mend_20 : decode cX11_mend 20 = .ok (.ifCond .ne 8, 3) := qdE154 (by decide +kernel)
theorem dX11_mend_23 : decode cX11_mend 23 = .ok (.aload_n 0, 1) := qdE42 (by decide +kernel)
theorem dX11_mend_24 : decode cX11_mend 24 = .ok (.aload_n 1, 1) := qdE43 (by decide +kernel)
theorem dX11_mend_25 : decode cX11_mend 25 = .ok (.invokevirtual 456, 3) := qdE182 (by decide +kernel)
theorem dX11_mend_28 : decode cX11_mend 28 = .ok (.aload_n 1, 1) := qdE43 (by decide +kernel)
theorem dX11_mend_29 : decode cX11_mend 29 = .ok (.getfield 201, 3) := qdE180 (by decide +kernel)
theorem dX11_mend_32 : decode cX11_mend 32 = .ok (.iconst 1, 1) := qdE4 (by decide +kernel)
theorem dX11_mend_33 : decode cX11_mend 33 = .ok (.if_icmp .ne 7, 3) := qdE160 (by decide +kernel)
theorem dX11_mend_36 : decode cX11_mend 36 = .ok (.iconst 1, 1) := qdE4 (by decide +kernel)
theorem dX11_mend_37 : decode cX11_mend 37 = .ok (.goto 4, 3) := qdE167 (by decide +kernel)
