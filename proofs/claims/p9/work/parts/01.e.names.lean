theorem goodIn_c {big ws : List Cond} {w : Cond} (h : w ∈ big ∧ ((w.onTables && w.keeps) = true ∨ ∃ ty, w = .arrayClass ty)) (t : GoodIn big ws) : GoodIn big (w :: ws) := fun x hx => (List.mem_cons.mp hx).elim (fun e => e ▸ h) (t x)
theorem goodIn_n {big : List Cond} : GoodIn big [] := fun x hx => absurd hx List.not_mem_nil
theorem zAllF (l : List Cond) : (l.filter goodWord).all goodWord = true := List.all_eq_true.mpr (fun x h => (List.mem_filter.mp h).2)
theorem ag_wsX00 : (wsX00).all goodWord = true := by decide +kernel
theorem ag_wsX10 : (wsX10).all goodWord = true := by decide +kernel
theorem ag_wsX20 : (wsX20).all goodWord = true := by decide +kernel
theorem ag_wsX30 : (wsX30).all goodWord = true := by decide +kernel
theorem ag_wsX40 : (wsX40).all goodWord = true := by decide +kernel
theorem ag_wsX50 : (wsX50).all goodWord = true := by decide +kernel
theorem ag_wsX60 : (wsX60).all goodWord = true := by decide +kernel
theorem ag_wsX70 : (wsX70).all goodWord = true := by decide +kernel
theorem ag_wsX80 : (wsX80).all goodWord = true := by decide +kernel
theorem ag_wsX90 : (wsX90).all goodWord = true := by decide +kernel
theorem ag_wsX100 : (wsX100).all goodWord = true := by decide +kernel
theorem ag_wsX110 : (wsX110).all goodWord = true := by decide +kernel
theorem ag_wsX120 : (wsX120).all goodWord = true := by decide +kernel
theorem ag_wsJ90 : (wsJ90).all goodWord = true := by decide +kernel
theorem ag_wsJ00 : (wsJ00).all goodWord = true := by decide +kernel
theorem ag_wsJ10 : (wsJ10).all goodWord = true := by decide +kernel
theorem ag_wsJ20 : (wsJ20).all goodWord = true := by decide +kernel
theorem ag_wsJ100 : (wsJ100).all goodWord = true := by decide +kernel
theorem ag_wsJ30 : (wsJ30).all goodWord = true := by decide +kernel
theorem dX0_init_0 : decode cX0_init 0 = .ok (.aload_n 0, 1) := by decide +kernel
theorem dX0_init_1 : decode cX0_init 1 = .ok (.invokespecial 3, 3) := by decide +kernel
theorem dX0_init_4 : decode cX0_init 4 = .ok (.aload_n 0, 1) := by decide +kernel
theorem dX0_init_5 : decode cX0_init 5 = .ok (.bipush 30, 2) := by decide +kernel
theorem dX0_init_7 : decode cX0_init 7 = .ok (.anewarray 9, 3) := by decide +kernel
theorem dX0_init_10 : decode cX0_init 10 = .ok (.putfield 11, 3) := by decide +kernel
theorem dX0_init_13 : decode cX0_init 13 = .ok (.return_, 1) := by decide +kernel
set_option maxRecDepth 20000 in
theorem glX0_add_0 : GoodIn wsX0_add ([.fieldLink RX0 17 "PostHouse$Book" "size" "I", .fieldLink RX0 11 "PostHouse$Book" "things" "[LPostHouse$Thing;", .classLink RX0 9 RX8, .instantiable RX8 10, .initialized RX8, .methodLink RX0 21 yX8_init, .instanceMethod yX8_init, .code yX8_init cX8_init 6 none, .methodLink RX8 3 objectInit, .instanceMethod objectInit, .code objectInit ⟨#[0xb1]⟩ 1 none, .arrayClass .int, .fieldLink RX8 9 "PostHouse$Thing" "moneys" "[I", .fieldLink RX8 15 "PostHouse$Thing" "froms" "[I", .fieldLink RX8 18 "PostHouse$Thing" "tos" "[I", .fieldLink RX8 21 "PostHouse$Thing" "number" "I", .fieldLink RX8 25 "PostHouse$Thing" "code" "I", .fieldLink RX8 28 "PostHouse$Thing" "weight" "I", .fieldLink RX8 31 "PostHouse$Thing" "street" "I", .fieldLink RX8 34 "PostHouse$Thing" "place" "I"]) := goodIn_sub (fun _ h => List.mem_cons_of_mem _ (List.mem_append_left _ (List.mem_append_left _ (h)))) (by decide +kernel)
set_option maxRecDepth 20000 in
theorem glX0_add_2 : GoodIn wsX0_add (wsX80) := goodIn_sub (fun _ h => List.mem_cons_of_mem _ (List.mem_append_right _ (h))) ag_wsX80
set_option maxRecDepth 20000 in
theorem ggX0_add_X8_init : GoodIn wsX0_add wsX8_init := goodIn_c (glX0_add_0 _ (List.mem_of_getElem? (i := 7) rfl)) (goodIn_app (goodIn_c (glX0_add_0 _ (List.mem_of_getElem? (i := 8) rfl)) (goodIn_c (glX0_add_0 _ (List.mem_of_getElem? (i := 9) rfl)) (goodIn_c (glX0_add_0 _ (List.mem_of_getElem? (i := 10) rfl)) (goodIn_c (glX0_add_0 _ (List.mem_of_getElem? (i := 11) rfl)) (goodIn_c (glX0_add_0 _ (List.mem_of_getElem? (i := 12) rfl)) (goodIn_c (glX0_add_0 _ (List.mem_of_getElem? (i := 13) rfl)) (goodIn_c (glX0_add_0 _ (List.mem_of_getElem? (i := 14) rfl)) (goodIn_c (glX0_add_0 _ (List.mem_of_getElem? (i := 15) rfl)) (goodIn_c (glX0_add_0 _ (List.mem_of_getElem? (i := 16) rfl)) (goodIn_c (glX0_add_0 _ (List.mem_of_getElem? (i := 17) rfl)) (goodIn_c (glX0_add_0 _ (List.mem_of_getElem? (i := 18) rfl)) (goodIn_c (glX0_add_0 _ (List.mem_of_getElem? (i := 19) rfl)) (goodIn_n))))))))))))) (glX0_add_2))
set_option maxRecDepth 20000 in
theorem gX0_add_X8_init : GoodIn wsX0_add (wsX8_init) := ggX0_add_X8_init
theorem dX0_add_0 : decode cX0_add 0 = .ok (.aload_n 0, 1) := by decide +kernel
theorem dX0_add_1 : decode cX0_add 1 = .ok (.getfield 17, 3) := by decide +kernel
theorem dX0_add_4 : decode cX0_add 4 = .ok (.bipush 30, 2) := by decide +kernel
theorem dX0_add_6 : decode cX0_add 6 = .ok (.if_icmp .lt 5, 3) := by decide +kernel
theorem dX0_add_9 : decode cX0_add 9 = .ok (.iconst (-1), 1) := by decide +kernel
theorem dX0_add_10 : decode cX0_add 10 = .ok (.ireturn, 1) := by decide +kernel
theorem dX0_add_11 : decode cX0_add 11 = .ok (.aload_n 0, 1) := by decide +kernel
theorem dX0_add_12 : decode cX0_add 12 = .ok (.getfield 11, 3) := by decide +kernel
theorem dX0_add_15 : decode cX0_add 15 = .ok (.aload_n 0, 1) := by decide +kernel
theorem dX0_add_16 : decode cX0_add 16 = .ok (.getfield 17, 3) := by decide +kernel
theorem dX0_add_19 : decode cX0_add 19 = .ok (.new 9, 3) := by decide +kernel
theorem dX0_add_22 : decode cX0_add 22 = .ok (.dup, 1) := by decide +kernel
theorem dX0_add_23 : decode cX0_add 23 = .ok (.aload_n 0, 1) := by decide +kernel
theorem dX0_add_24 : decode cX0_add 24 = .ok (.getfield 17, 3) := by decide +kernel
theorem dX0_add_27 : decode cX0_add 27 = .ok (.iload_n 1, 1) := by decide +kernel
theorem dX0_add_28 : decode cX0_add 28 = .ok (.iload_n 2, 1) := by decide +kernel
theorem dX0_add_29 : decode cX0_add 29 = .ok (.iload_n 3, 1) := by decide +kernel
theorem dX0_add_30 : decode cX0_add 30 = .ok (.iload 4, 2) := by decide +kernel
theorem dX0_add_32 : decode cX0_add 32 = .ok (.invokespecial 21, 3) := by decide +kernel
theorem dX0_add_35 : decode cX0_add 35 = .ok (.aastore, 1) := by decide +kernel
theorem dX0_add_36 : decode cX0_add 36 = .ok (.aload_n 0, 1) := by decide +kernel
theorem dX0_add_37 : decode cX0_add 37 = .ok (.dup, 1) := by decide +kernel
theorem dX0_add_38 : decode cX0_add 38 = .ok (.getfield 17, 3) := by decide +kernel
theorem dX0_add_41 : decode cX0_add 41 = .ok (.iconst 1, 1) := by decide +kernel
theorem dX0_add_42 : decode cX0_add 42 = .ok (.iadd, 1) := by decide +kernel
theorem dX0_add_43 : decode cX0_add 43 = .ok (.putfield 17, 3) := by decide +kernel
theorem dX0_add_46 : decode cX0_add 46 = .ok (.aload_n 0, 1) := by decide +kernel
theorem dX0_add_47 : decode cX0_add 47 = .ok (.getfield 17, 3) := by decide +kernel
theorem dX0_add_50 : decode cX0_add 50 = .ok (.iconst 1, 1) := by decide +kernel
theorem dX0_add_51 : decode cX0_add 51 = .ok (.isub, 1) := by decide +kernel
theorem dX0_add_52 : decode cX0_add 52 = .ok (.ireturn, 1) := by decide +kernel
set_option maxRecDepth 20000 in
theorem glX0_at_0 : GoodIn wsX0_at ([.fieldLink RX0 17 "PostHouse$Book" "size" "I", .fieldLink RX0 11 "PostHouse$Book" "things" "[LPostHouse$Thing;", .static yX11_within, .initialized RX11, .code yX11_within cX11_within 3 (some .boolean)]) := goodIn_sub (fun _ h => List.mem_cons_of_mem _ (List.mem_append_left _ (h))) (by decide +kernel)
set_option maxRecDepth 20000 in
theorem ggX0_at_X11_within : GoodIn wsX0_at wsX11_within := goodIn_c (glX0_at_0 _ (List.mem_of_getElem? (i := 4) rfl)) (goodIn_n)
set_option maxRecDepth 20000 in
theorem gX0_at_X11_within_n24 : GoodIn wsX0_at (wsX11_within) := ggX0_at_X11_within
theorem dX0_at_0 : decode cX0_at 0 = .ok (.iload_n 1, 1) := by decide +kernel
theorem dX0_at_1 : decode cX0_at 1 = .ok (.iconst 0, 1) := by decide +kernel
theorem dX0_at_2 : decode cX0_at 2 = .ok (.aload_n 0, 1) := by decide +kernel
theorem dX0_at_3 : decode cX0_at 3 = .ok (.getfield 17, 3) := by decide +kernel
theorem dX0_at_6 : decode cX0_at 6 = .ok (.iconst 1, 1) := by decide +kernel
theorem dX0_at_7 : decode cX0_at 7 = .ok (.isub, 1) := by decide +kernel
theorem dX0_at_8 : decode cX0_at 8 = .ok (.invokestatic 24, 3) := by decide +kernel
theorem dX0_at_11 : decode cX0_at 11 = .ok (.ifCond .eq 12, 3) := by decide +kernel
theorem dX0_at_14 : decode cX0_at 14 = .ok (.aload_n 0, 1) := by decide +kernel
theorem dX0_at_15 : decode cX0_at 15 = .ok (.getfield 11, 3) := by decide +kernel
theorem dX0_at_18 : decode cX0_at 18 = .ok (.iload_n 1, 1) := by decide +kernel
theorem dX0_at_19 : decode cX0_at 19 = .ok (.aaload, 1) := by decide +kernel
theorem dX0_at_20 : decode cX0_at 20 = .ok (.goto 4, 3) := by decide +kernel
theorem dX0_at_23 : decode cX0_at 23 = .ok (.aconst_null, 1) := by decide +kernel
theorem dX0_at_24 : decode cX0_at 24 = .ok (.areturn, 1) := by decide +kernel
theorem dX0_ofCode_0 : decode cX0_ofCode 0 = .ok (.iconst 0, 1) := by decide +kernel
theorem dX0_ofCode_1 : decode cX0_ofCode 1 = .ok (.istore_n 2, 1) := by decide +kernel
theorem dX0_ofCode_2 : decode cX0_ofCode 2 = .ok (.iload_n 2, 1) := by decide +kernel
theorem dX0_ofCode_3 : decode cX0_ofCode 3 = .ok (.aload_n 0, 1) := by decide +kernel
theorem dX0_ofCode_4 : decode cX0_ofCode 4 = .ok (.getfield 17, 3) := by decide +kernel
theorem dX0_ofCode_7 : decode cX0_ofCode 7 = .ok (.if_icmp .ge 29, 3) := by decide +kernel
theorem dX0_ofCode_10 : decode cX0_ofCode 10 = .ok (.aload_n 0, 1) := by decide +kernel
theorem dX0_ofCode_11 : decode cX0_ofCode 11 = .ok (.getfield 11, 3) := by decide +kernel
theorem dX0_ofCode_14 : decode cX0_ofCode 14 = .ok (.iload_n 2, 1) := by decide +kernel
theorem dX0_ofCode_15 : decode cX0_ofCode 15 = .ok (.aaload, 1) := by decide +kernel
theorem dX0_ofCode_16 : decode cX0_ofCode 16 = .ok (.getfield 28, 3) := by decide +kernel
theorem dX0_ofCode_19 : decode cX0_ofCode 19 = .ok (.iload_n 1, 1) := by decide +kernel
theorem dX0_ofCode_20 : decode cX0_ofCode 20 = .ok (.if_icmp .ne 10, 3) := by decide +kernel
theorem dX0_ofCode_23 : decode cX0_ofCode 23 = .ok (.aload_n 0, 1) := by decide +kernel
theorem dX0_ofCode_24 : decode cX0_ofCode 24 = .ok (.getfield 11, 3) := by decide +kernel
theorem dX0_ofCode_27 : decode cX0_ofCode 27 = .ok (.iload_n 2, 1) := by decide +kernel
theorem dX0_ofCode_28 : decode cX0_ofCode 28 = .ok (.aaload, 1) := by decide +kernel
theorem dX0_ofCode_29 : decode cX0_ofCode 29 = .ok (.areturn, 1) := by decide +kernel
theorem dX0_ofCode_30 : decode cX0_ofCode 30 = .ok (.iinc 2 1, 3) := by decide +kernel
theorem dX0_ofCode_33 : decode cX0_ofCode 33 = .ok (.goto (-31), 3) := by decide +kernel
theorem dX0_ofCode_36 : decode cX0_ofCode 36 = .ok (.aconst_null, 1) := by decide +kernel
theorem dX0_ofCode_37 : decode cX0_ofCode 37 = .ok (.areturn, 1) := by decide +kernel
theorem dX1_init_0 : decode cX1_init 0 = .ok (.aload_n 0, 1) := by decide +kernel
theorem dX1_init_1 : decode cX1_init 1 = .ok (.invokespecial 3, 3) := by decide +kernel
theorem dX1_init_4 : decode cX1_init 4 = .ok (.aload_n 0, 1) := by decide +kernel
theorem dX1_init_5 : decode cX1_init 5 = .ok (.bipush 60, 2) := by decide +kernel
theorem dX1_init_7 : decode cX1_init 7 = .ok (.anewarray 9, 3) := by decide +kernel
theorem dX1_init_10 : decode cX1_init 10 = .ok (.putfield 11, 3) := by decide +kernel
theorem dX1_init_13 : decode cX1_init 13 = .ok (.aload_n 0, 1) := by decide +kernel
theorem dX1_init_14 : decode cX1_init 14 = .ok (.bipush 60, 2) := by decide +kernel
theorem dX1_init_16 : decode cX1_init 16 = .ok (.newarray .int, 2) := by decide +kernel
theorem dX1_init_18 : decode cX1_init 18 = .ok (.putfield 17, 3) := by decide +kernel
theorem dX1_init_21 : decode cX1_init 21 = .ok (.aload_n 0, 1) := by decide +kernel
theorem dX1_init_22 : decode cX1_init 22 = .ok (.bipush 60, 2) := by decide +kernel
theorem dX1_init_24 : decode cX1_init 24 = .ok (.newarray .int, 2) := by decide +kernel
theorem dX1_init_26 : decode cX1_init 26 = .ok (.putfield 21, 3) := by decide +kernel
theorem dX1_init_29 : decode cX1_init 29 = .ok (.return_, 1) := by decide +kernel
theorem dX1_add_0 : decode cX1_add 0 = .ok (.aload_n 0, 1) := by decide +kernel
theorem dX1_add_1 : decode cX1_add 1 = .ok (.getfield 24, 3) := by decide +kernel
theorem dX1_add_4 : decode cX1_add 4 = .ok (.bipush 60, 2) := by decide +kernel
theorem dX1_add_6 : decode cX1_add 6 = .ok (.if_icmp .ge 43, 3) := by decide +kernel
theorem dX1_add_9 : decode cX1_add 9 = .ok (.aload_n 0, 1) := by decide +kernel
theorem dX1_add_10 : decode cX1_add 10 = .ok (.getfield 11, 3) := by decide +kernel
theorem dX1_add_13 : decode cX1_add 13 = .ok (.aload_n 0, 1) := by decide +kernel
theorem dX1_add_14 : decode cX1_add 14 = .ok (.getfield 24, 3) := by decide +kernel
theorem dX1_add_17 : decode cX1_add 17 = .ok (.aload_n 1, 1) := by decide +kernel
theorem dX1_add_18 : decode cX1_add 18 = .ok (.aastore, 1) := by decide +kernel
theorem dX1_add_19 : decode cX1_add 19 = .ok (.aload_n 0, 1) := by decide +kernel
theorem dX1_add_20 : decode cX1_add 20 = .ok (.getfield 17, 3) := by decide +kernel
theorem dX1_add_23 : decode cX1_add 23 = .ok (.aload_n 0, 1) := by decide +kernel
theorem dX1_add_24 : decode cX1_add 24 = .ok (.getfield 24, 3) := by decide +kernel
theorem dX1_add_27 : decode cX1_add 27 = .ok (.iload_n 2, 1) := by decide +kernel
theorem dX1_add_28 : decode cX1_add 28 = .ok (.iastore, 1) := by decide +kernel
theorem dX1_add_29 : decode cX1_add 29 = .ok (.aload_n 0, 1) := by decide +kernel
theorem dX1_add_30 : decode cX1_add 30 = .ok (.getfield 21, 3) := by decide +kernel
theorem dX1_add_33 : decode cX1_add 33 = .ok (.aload_n 0, 1) := by decide +kernel
theorem dX1_add_34 : decode cX1_add 34 = .ok (.getfield 24, 3) := by decide +kernel
theorem dX1_add_37 : decode cX1_add 37 = .ok (.iload_n 3, 1) := by decide +kernel
theorem dX1_add_38 : decode cX1_add 38 = .ok (.iastore, 1) := by decide +kernel
theorem dX1_add_39 : decode cX1_add 39 = .ok (.aload_n 0, 1) := by decide +kernel
theorem dX1_add_40 : decode cX1_add 40 = .ok (.dup, 1) := by decide +kernel
theorem dX1_add_41 : decode cX1_add 41 = .ok (.getfield 24, 3) := by decide +kernel
theorem dX1_add_44 : decode cX1_add 44 = .ok (.iconst 1, 1) := by decide +kernel
theorem dX1_add_45 : decode cX1_add 45 = .ok (.iadd, 1) := by decide +kernel
theorem dX1_add_46 : decode cX1_add 46 = .ok (.putfield 24, 3) := by decide +kernel
theorem dX1_add_49 : decode cX1_add 49 = .ok (.aload_n 0, 1) := by decide +kernel
theorem dX1_add_50 : decode cX1_add 50 = .ok (.getfield 24, 3) := by decide +kernel
theorem dX1_add_53 : decode cX1_add 53 = .ok (.ireturn, 1) := by decide +kernel
theorem dX1_arrive_0 : decode cX1_arrive 0 = .ok (.iconst 0, 1) := by decide +kernel
theorem dX1_arrive_1 : decode cX1_arrive 1 = .ok (.istore_n 2, 1) := by decide +kernel
theorem dX1_arrive_2 : decode cX1_arrive 2 = .ok (.iconst 0, 1) := by decide +kernel
theorem dX1_arrive_3 : decode cX1_arrive 3 = .ok (.istore_n 3, 1) := by decide +kernel
theorem dX1_arrive_4 : decode cX1_arrive 4 = .ok (.iload_n 3, 1) := by decide +kernel
theorem dX1_arrive_5 : decode cX1_arrive 5 = .ok (.aload_n 0, 1) := by decide +kernel
theorem dX1_arrive_6 : decode cX1_arrive 6 = .ok (.getfield 24, 3) := by decide +kernel
theorem dX1_arrive_9 : decode cX1_arrive 9 = .ok (.if_icmp .ge 81, 3) := by decide +kernel
theorem dX1_arrive_12 : decode cX1_arrive 12 = .ok (.aload_n 0, 1) := by decide +kernel
theorem dX1_arrive_13 : decode cX1_arrive 13 = .ok (.getfield 17, 3) := by decide +kernel
theorem dX1_arrive_16 : decode cX1_arrive 16 = .ok (.iload_n 3, 1) := by decide +kernel
theorem dX1_arrive_17 : decode cX1_arrive 17 = .ok (.iaload, 1) := by decide +kernel
theorem dX1_arrive_18 : decode cX1_arrive 18 = .ok (.iload_n 1, 1) := by decide +kernel
theorem dX1_arrive_19 : decode cX1_arrive 19 = .ok (.if_icmp .ne 26, 3) := by decide +kernel
theorem dX1_arrive_22 : decode cX1_arrive 22 = .ok (.aload_n 0, 1) := by decide +kernel
theorem dX1_arrive_23 : decode cX1_arrive 23 = .ok (.getfield 11, 3) := by decide +kernel
theorem dX1_arrive_26 : decode cX1_arrive 26 = .ok (.iload_n 3, 1) := by decide +kernel
theorem dX1_arrive_27 : decode cX1_arrive 27 = .ok (.aaload, 1) := by decide +kernel
theorem dX1_arrive_28 : decode cX1_arrive 28 = .ok (.dup, 1) := by decide +kernel
theorem dX1_arrive_29 : decode cX1_arrive 29 = .ok (.getfield 28, 3) := by decide +kernel
theorem dX1_arrive_32 : decode cX1_arrive 32 = .ok (.aload_n 0, 1) := by decide +kernel
theorem dX1_arrive_33 : decode cX1_arrive 33 = .ok (.getfield 21, 3) := by decide +kernel
theorem dX1_arrive_36 : decode cX1_arrive 36 = .ok (.iload_n 3, 1) := by decide +kernel
theorem dX1_arrive_37 : decode cX1_arrive 37 = .ok (.iaload, 1) := by decide +kernel
theorem dX1_arrive_38 : decode cX1_arrive 38 = .ok (.iadd, 1) := by decide +kernel
theorem dX1_arrive_39 : decode cX1_arrive 39 = .ok (.putfield 28, 3) := by decide +kernel
theorem dX1_arrive_42 : decode cX1_arrive 42 = .ok (.goto 42, 3) := by decide +kernel
theorem dX1_arrive_45 : decode cX1_arrive 45 = .ok (.aload_n 0, 1) := by decide +kernel
theorem dX1_arrive_46 : decode cX1_arrive 46 = .ok (.getfield 11, 3) := by decide +kernel
theorem dX1_arrive_49 : decode cX1_arrive 49 = .ok (.iload_n 2, 1) := by decide +kernel
theorem dX1_arrive_50 : decode cX1_arrive 50 = .ok (.aload_n 0, 1) := by decide +kernel
theorem dX1_arrive_51 : decode cX1_arrive 51 = .ok (.getfield 11, 3) := by decide +kernel
theorem dX1_arrive_54 : decode cX1_arrive 54 = .ok (.iload_n 3, 1) := by decide +kernel
theorem dX1_arrive_55 : decode cX1_arrive 55 = .ok (.aaload, 1) := by decide +kernel
theorem dX1_arrive_56 : decode cX1_arrive 56 = .ok (.aastore, 1) := by decide +kernel
theorem dX1_arrive_57 : decode cX1_arrive 57 = .ok (.aload_n 0, 1) := by decide +kernel
theorem dX1_arrive_58 : decode cX1_arrive 58 = .ok (.getfield 17, 3) := by decide +kernel
theorem dX1_arrive_61 : decode cX1_arrive 61 = .ok (.iload_n 2, 1) := by decide +kernel
theorem dX1_arrive_62 : decode cX1_arrive 62 = .ok (.aload_n 0, 1) := by decide +kernel
theorem dX1_arrive_63 : decode cX1_arrive 63 = .ok (.getfield 17, 3) := by decide +kernel
theorem dX1_arrive_66 : decode cX1_arrive 66 = .ok (.iload_n 3, 1) := by decide +kernel
theorem dX1_arrive_67 : decode cX1_arrive 67 = .ok (.iaload, 1) := by decide +kernel
theorem dX1_arrive_68 : decode cX1_arrive 68 = .ok (.iastore, 1) := by decide +kernel
theorem dX1_arrive_69 : decode cX1_arrive 69 = .ok (.aload_n 0, 1) := by decide +kernel
theorem dX1_arrive_70 : decode cX1_arrive 70 = .ok (.getfield 21, 3) := by decide +kernel
theorem dX1_arrive_73 : decode cX1_arrive 73 = .ok (.iload_n 2, 1) := by decide +kernel
theorem dX1_arrive_74 : decode cX1_arrive 74 = .ok (.aload_n 0, 1) := by decide +kernel
theorem dX1_arrive_75 : decode cX1_arrive 75 = .ok (.getfield 21, 3) := by decide +kernel
theorem dX1_arrive_78 : decode cX1_arrive 78 = .ok (.iload_n 3, 1) := by decide +kernel
theorem dX1_arrive_79 : decode cX1_arrive 79 = .ok (.iaload, 1) := by decide +kernel
theorem dX1_arrive_80 : decode cX1_arrive 80 = .ok (.iastore, 1) := by decide +kernel
theorem dX1_arrive_81 : decode cX1_arrive 81 = .ok (.iinc 2 1, 3) := by decide +kernel
theorem dX1_arrive_84 : decode cX1_arrive 84 = .ok (.iinc 3 1, 3) := by decide +kernel
theorem dX1_arrive_87 : decode cX1_arrive 87 = .ok (.goto (-83), 3) := by decide +kernel
theorem dX1_arrive_90 : decode cX1_arrive 90 = .ok (.aload_n 0, 1) := by decide +kernel
theorem dX1_arrive_91 : decode cX1_arrive 91 = .ok (.iload_n 2, 1) := by decide +kernel
theorem dX1_arrive_92 : decode cX1_arrive 92 = .ok (.putfield 24, 3) := by decide +kernel
theorem dX1_arrive_95 : decode cX1_arrive 95 = .ok (.return_, 1) := by decide +kernel
theorem dX1_piecesOf_0 : decode cX1_piecesOf 0 = .ok (.iconst 0, 1) := by decide +kernel
theorem dX1_piecesOf_1 : decode cX1_piecesOf 1 = .ok (.istore_n 2, 1) := by decide +kernel
theorem dX1_piecesOf_2 : decode cX1_piecesOf 2 = .ok (.iconst 0, 1) := by decide +kernel
theorem dX1_piecesOf_3 : decode cX1_piecesOf 3 = .ok (.istore_n 3, 1) := by decide +kernel
theorem dX1_piecesOf_4 : decode cX1_piecesOf 4 = .ok (.iload_n 3, 1) := by decide +kernel
theorem dX1_piecesOf_5 : decode cX1_piecesOf 5 = .ok (.aload_n 0, 1) := by decide +kernel
theorem dX1_piecesOf_6 : decode cX1_piecesOf 6 = .ok (.getfield 24, 3) := by decide +kernel
theorem dX1_piecesOf_9 : decode cX1_piecesOf 9 = .ok (.if_icmp .ge 28, 3) := by decide +kernel
theorem dX1_piecesOf_12 : decode cX1_piecesOf 12 = .ok (.aload_n 0, 1) := by decide +kernel
theorem dX1_piecesOf_13 : decode cX1_piecesOf 13 = .ok (.getfield 11, 3) := by decide +kernel
theorem dX1_piecesOf_16 : decode cX1_piecesOf 16 = .ok (.iload_n 3, 1) := by decide +kernel
theorem dX1_piecesOf_17 : decode cX1_piecesOf 17 = .ok (.aaload, 1) := by decide +kernel
theorem dX1_piecesOf_18 : decode cX1_piecesOf 18 = .ok (.aload_n 1, 1) := by decide +kernel
theorem dX1_piecesOf_19 : decode cX1_piecesOf 19 = .ok (.if_acmp .ne 12, 3) := by decide +kernel
theorem dX1_piecesOf_22 : decode cX1_piecesOf 22 = .ok (.iload_n 2, 1) := by decide +kernel
theorem dX1_piecesOf_23 : decode cX1_piecesOf 23 = .ok (.aload_n 0, 1) := by decide +kernel
theorem dX1_piecesOf_24 : decode cX1_piecesOf 24 = .ok (.getfield 21, 3) := by decide +kernel
theorem dX1_piecesOf_27 : decode cX1_piecesOf 27 = .ok (.iload_n 3, 1) := by decide +kernel
theorem dX1_piecesOf_28 : decode cX1_piecesOf 28 = .ok (.iaload, 1) := by decide +kernel
theorem dX1_piecesOf_29 : decode cX1_piecesOf 29 = .ok (.iadd, 1) := by decide +kernel
theorem dX1_piecesOf_30 : decode cX1_piecesOf 30 = .ok (.istore_n 2, 1) := by decide +kernel
theorem dX1_piecesOf_31 : decode cX1_piecesOf 31 = .ok (.iinc 3 1, 3) := by decide +kernel
theorem dX1_piecesOf_34 : decode cX1_piecesOf 34 = .ok (.goto (-30), 3) := by decide +kernel
theorem dX1_piecesOf_37 : decode cX1_piecesOf 37 = .ok (.iload_n 2, 1) := by decide +kernel
theorem dX1_piecesOf_38 : decode cX1_piecesOf 38 = .ok (.ireturn, 1) := by decide +kernel
theorem dX1_allPieces_0 : decode cX1_allPieces 0 = .ok (.iconst 0, 1) := by decide +kernel
theorem dX1_allPieces_1 : decode cX1_allPieces 1 = .ok (.istore_n 1, 1) := by decide +kernel
theorem dX1_allPieces_2 : decode cX1_allPieces 2 = .ok (.iconst 0, 1) := by decide +kernel
theorem dX1_allPieces_3 : decode cX1_allPieces 3 = .ok (.istore_n 2, 1) := by decide +kernel
theorem dX1_allPieces_4 : decode cX1_allPieces 4 = .ok (.iload_n 2, 1) := by decide +kernel
theorem dX1_allPieces_5 : decode cX1_allPieces 5 = .ok (.aload_n 0, 1) := by decide +kernel
theorem dX1_allPieces_6 : decode cX1_allPieces 6 = .ok (.getfield 24, 3) := by decide +kernel
theorem dX1_allPieces_9 : decode cX1_allPieces 9 = .ok (.if_icmp .ge 18, 3) := by decide +kernel
theorem dX1_allPieces_12 : decode cX1_allPieces 12 = .ok (.iload_n 1, 1) := by decide +kernel
theorem dX1_allPieces_13 : decode cX1_allPieces 13 = .ok (.aload_n 0, 1) := by decide +kernel
theorem dX1_allPieces_14 : decode cX1_allPieces 14 = .ok (.getfield 21, 3) := by decide +kernel
theorem dX1_allPieces_17 : decode cX1_allPieces 17 = .ok (.iload_n 2, 1) := by decide +kernel
theorem dX1_allPieces_18 : decode cX1_allPieces 18 = .ok (.iaload, 1) := by decide +kernel
theorem dX1_allPieces_19 : decode cX1_allPieces 19 = .ok (.iadd, 1) := by decide +kernel
theorem dX1_allPieces_20 : decode cX1_allPieces 20 = .ok (.istore_n 1, 1) := by decide +kernel
theorem dX1_allPieces_21 : decode cX1_allPieces 21 = .ok (.iinc 2 1, 3) := by decide +kernel
theorem dX1_allPieces_24 : decode cX1_allPieces 24 = .ok (.goto (-20), 3) := by decide +kernel
theorem dX1_allPieces_27 : decode cX1_allPieces 27 = .ok (.iload_n 1, 1) := by decide +kernel
theorem dX1_allPieces_28 : decode cX1_allPieces 28 = .ok (.ireturn, 1) := by decide +kernel
theorem dX2_init_0 : decode cX2_init 0 = .ok (.aload_n 0, 1) := by decide +kernel
theorem dX2_init_1 : decode cX2_init 1 = .ok (.invokespecial 3, 3) := by decide +kernel
theorem dX2_init_4 : decode cX2_init 4 = .ok (.aload_n 0, 1) := by decide +kernel
theorem dX2_init_5 : decode cX2_init 5 = .ok (.bipush 8, 2) := by decide +kernel
theorem dX2_init_7 : decode cX2_init 7 = .ok (.newarray .int, 2) := by decide +kernel
theorem dX2_init_9 : decode cX2_init 9 = .ok (.putfield 9, 3) := by decide +kernel
theorem dX2_init_12 : decode cX2_init 12 = .ok (.aload_n 0, 1) := by decide +kernel
theorem dX2_init_13 : decode cX2_init 13 = .ok (.bipush 8, 2) := by decide +kernel
theorem dX2_init_15 : decode cX2_init 15 = .ok (.newarray .int, 2) := by decide +kernel
theorem dX2_init_17 : decode cX2_init 17 = .ok (.putfield 15, 3) := by decide +kernel
theorem dX2_init_20 : decode cX2_init 20 = .ok (.return_, 1) := by decide +kernel
theorem dX2_addLine_0 : decode cX2_addLine 0 = .ok (.aload_n 0, 1) := by decide +kernel
theorem dX2_addLine_1 : decode cX2_addLine 1 = .ok (.getfield 18, 3) := by decide +kernel
theorem dX2_addLine_4 : decode cX2_addLine 4 = .ok (.bipush 8, 2) := by decide +kernel
theorem dX2_addLine_6 : decode cX2_addLine 6 = .ok (.if_icmp .ge 33, 3) := by decide +kernel
theorem dX2_addLine_9 : decode cX2_addLine 9 = .ok (.aload_n 0, 1) := by decide +kernel
theorem dX2_addLine_10 : decode cX2_addLine 10 = .ok (.getfield 9, 3) := by decide +kernel
theorem dX2_addLine_13 : decode cX2_addLine 13 = .ok (.aload_n 0, 1) := by decide +kernel
theorem dX2_addLine_14 : decode cX2_addLine 14 = .ok (.getfield 18, 3) := by decide +kernel
theorem dX2_addLine_17 : decode cX2_addLine 17 = .ok (.iload_n 1, 1) := by decide +kernel
theorem dX2_addLine_18 : decode cX2_addLine 18 = .ok (.iastore, 1) := by decide +kernel
theorem dX2_addLine_19 : decode cX2_addLine 19 = .ok (.aload_n 0, 1) := by decide +kernel
theorem dX2_addLine_20 : decode cX2_addLine 20 = .ok (.getfield 15, 3) := by decide +kernel
theorem dX2_addLine_23 : decode cX2_addLine 23 = .ok (.aload_n 0, 1) := by decide +kernel
theorem dX2_addLine_24 : decode cX2_addLine 24 = .ok (.getfield 18, 3) := by decide +kernel
theorem dX2_addLine_27 : decode cX2_addLine 27 = .ok (.iload_n 2, 1) := by decide +kernel
theorem dX2_addLine_28 : decode cX2_addLine 28 = .ok (.iastore, 1) := by decide +kernel
theorem dX2_addLine_29 : decode cX2_addLine 29 = .ok (.aload_n 0, 1) := by decide +kernel
theorem dX2_addLine_30 : decode cX2_addLine 30 = .ok (.dup, 1) := by decide +kernel
theorem dX2_addLine_31 : decode cX2_addLine 31 = .ok (.getfield 18, 3) := by decide +kernel
theorem dX2_addLine_34 : decode cX2_addLine 34 = .ok (.iconst 1, 1) := by decide +kernel
theorem dX2_addLine_35 : decode cX2_addLine 35 = .ok (.iadd, 1) := by decide +kernel
theorem dX2_addLine_36 : decode cX2_addLine 36 = .ok (.putfield 18, 3) := by decide +kernel
theorem dX2_addLine_39 : decode cX2_addLine 39 = .ok (.return_, 1) := by decide +kernel
theorem dX3_init_0 : decode cX3_init 0 = .ok (.aload_n 0, 1) := by decide +kernel
theorem dX3_init_1 : decode cX3_init 1 = .ok (.invokespecial 3, 3) := by decide +kernel
theorem dX3_init_4 : decode cX3_init 4 = .ok (.aload_n 0, 1) := by decide +kernel
theorem dX3_init_5 : decode cX3_init 5 = .ok (.bipush 8, 2) := by decide +kernel
theorem dX3_init_7 : decode cX3_init 7 = .ok (.anewarray 9, 3) := by decide +kernel
theorem dX3_init_10 : decode cX3_init 10 = .ok (.putfield 11, 3) := by decide +kernel
theorem dX3_init_13 : decode cX3_init 13 = .ok (.aload_n 0, 1) := by decide +kernel
theorem dX3_init_14 : decode cX3_init 14 = .ok (.iload_n 1, 1) := by decide +kernel
theorem dX3_init_15 : decode cX3_init 15 = .ok (.putfield 17, 3) := by decide +kernel
theorem dX3_init_18 : decode cX3_init 18 = .ok (.aload_n 0, 1) := by decide +kernel
theorem dX3_init_19 : decode cX3_init 19 = .ok (.iload_n 2, 1) := by decide +kernel
theorem dX3_init_20 : decode cX3_init 20 = .ok (.putfield 21, 3) := by decide +kernel
theorem dX3_init_23 : decode cX3_init 23 = .ok (.aload_n 0, 1) := by decide +kernel
theorem dX3_init_24 : decode cX3_init 24 = .ok (.iload_n 3, 1) := by decide +kernel
theorem dX3_init_25 : decode cX3_init 25 = .ok (.putfield 24, 3) := by decide +kernel
theorem dX3_init_28 : decode cX3_init 28 = .ok (.aload_n 0, 1) := by decide +kernel
theorem dX3_init_29 : decode cX3_init 29 = .ok (.iload_n 2, 1) := by decide +kernel
theorem dX3_init_30 : decode cX3_init 30 = .ok (.iload 4, 2) := by decide +kernel
theorem dX3_init_32 : decode cX3_init 32 = .ok (.isub, 1) := by decide +kernel
theorem dX3_init_33 : decode cX3_init 33 = .ok (.iload_n 3, 1) := by decide +kernel
theorem dX3_init_34 : decode cX3_init 34 = .ok (.isub, 1) := by decide +kernel
theorem dX3_init_35 : decode cX3_init 35 = .ok (.putfield 27, 3) := by decide +kernel
theorem dX3_init_38 : decode cX3_init 38 = .ok (.return_, 1) := by decide +kernel
theorem dX3_add_0 : decode cX3_add 0 = .ok (.aload_n 0, 1) := by decide +kernel
theorem dX3_add_1 : decode cX3_add 1 = .ok (.getfield 30, 3) := by decide +kernel
theorem dX3_add_4 : decode cX3_add 4 = .ok (.bipush 8, 2) := by decide +kernel
theorem dX3_add_6 : decode cX3_add 6 = .ok (.if_icmp .ge 23, 3) := by decide +kernel
theorem dX3_add_9 : decode cX3_add 9 = .ok (.aload_n 0, 1) := by decide +kernel
theorem dX3_add_10 : decode cX3_add 10 = .ok (.getfield 11, 3) := by decide +kernel
theorem dX3_add_13 : decode cX3_add 13 = .ok (.aload_n 0, 1) := by decide +kernel
theorem dX3_add_14 : decode cX3_add 14 = .ok (.getfield 30, 3) := by decide +kernel
theorem dX3_add_17 : decode cX3_add 17 = .ok (.aload_n 1, 1) := by decide +kernel
theorem dX3_add_18 : decode cX3_add 18 = .ok (.aastore, 1) := by decide +kernel
theorem dX3_add_19 : decode cX3_add 19 = .ok (.aload_n 0, 1) := by decide +kernel
theorem dX3_add_20 : decode cX3_add 20 = .ok (.dup, 1) := by decide +kernel
theorem dX3_add_21 : decode cX3_add 21 = .ok (.getfield 30, 3) := by decide +kernel
theorem dX3_add_24 : decode cX3_add 24 = .ok (.iconst 1, 1) := by decide +kernel
theorem dX3_add_25 : decode cX3_add 25 = .ok (.iadd, 1) := by decide +kernel
theorem dX3_add_26 : decode cX3_add 26 = .ok (.putfield 30, 3) := by decide +kernel
theorem dX3_add_29 : decode cX3_add 29 = .ok (.return_, 1) := by decide +kernel
set_option maxRecDepth 20000 in
theorem glX3_piecesLeft_0 : GoodIn wsX3_piecesLeft ([.fieldLink RX3 30 "PostHouse$Order" "size" "I", .fieldLink RX3 11 "PostHouse$Order" "wants" "[LPostHouse$Want;", .methodLink RX3 33 yX10_left, .instanceMethod yX10_left, .selects RX10 yX10_left yX10_left, .initialized RX10, .code yX10_left cX10_left 1 (some .int), .fieldLink RX10 19 "PostHouse$Want" "many" "I", .fieldLink RX10 25 "PostHouse$Want" "sent" "I", .fieldLink RX10 28 "PostHouse$Want" "placed" "I", .fieldLink RX10 31 "PostHouse$Want" "cancelled" "I"]) := goodIn_sub (fun _ h => List.mem_cons_of_mem _ (List.mem_append_left _ (List.mem_append_left _ (h)))) (by decide +kernel)
set_option maxRecDepth 20000 in
theorem glX3_piecesLeft_2 : GoodIn wsX3_piecesLeft (wsX100) := goodIn_sub (fun _ h => List.mem_cons_of_mem _ (List.mem_append_right _ (h))) ag_wsX100
set_option maxRecDepth 20000 in
theorem ggX3_piecesLeft_X10_left : GoodIn wsX3_piecesLeft wsX10_left := goodIn_c (glX3_piecesLeft_0 _ (List.mem_of_getElem? (i := 6) rfl)) (goodIn_app (goodIn_c (glX3_piecesLeft_0 _ (List.mem_of_getElem? (i := 7) rfl)) (goodIn_c (glX3_piecesLeft_0 _ (List.mem_of_getElem? (i := 8) rfl)) (goodIn_c (glX3_piecesLeft_0 _ (List.mem_of_getElem? (i := 9) rfl)) (goodIn_c (glX3_piecesLeft_0 _ (List.mem_of_getElem? (i := 10) rfl)) (goodIn_n))))) (glX3_piecesLeft_2))
set_option maxRecDepth 20000 in
theorem gX3_piecesLeft_X10_left : GoodIn wsX3_piecesLeft (wsV RX3 33 RX10 yX10_left wsX10_left) := goodIn_app (goodIn_of _ (by decide +kernel)) ggX3_piecesLeft_X10_left
theorem dX3_piecesLeft_0 : decode cX3_piecesLeft 0 = .ok (.iconst 0, 1) := by decide +kernel
theorem dX3_piecesLeft_1 : decode cX3_piecesLeft 1 = .ok (.istore_n 1, 1) := by decide +kernel
theorem dX3_piecesLeft_2 : decode cX3_piecesLeft 2 = .ok (.iconst 0, 1) := by decide +kernel
theorem dX3_piecesLeft_3 : decode cX3_piecesLeft 3 = .ok (.istore_n 2, 1) := by decide +kernel
theorem dX3_piecesLeft_4 : decode cX3_piecesLeft 4 = .ok (.iload_n 2, 1) := by decide +kernel
theorem dX3_piecesLeft_5 : decode cX3_piecesLeft 5 = .ok (.aload_n 0, 1) := by decide +kernel
theorem dX3_piecesLeft_6 : decode cX3_piecesLeft 6 = .ok (.getfield 30, 3) := by decide +kernel
theorem dX3_piecesLeft_9 : decode cX3_piecesLeft 9 = .ok (.if_icmp .ge 21, 3) := by decide +kernel
theorem dX3_piecesLeft_12 : decode cX3_piecesLeft 12 = .ok (.iload_n 1, 1) := by decide +kernel
theorem dX3_piecesLeft_13 : decode cX3_piecesLeft 13 = .ok (.aload_n 0, 1) := by decide +kernel
theorem dX3_piecesLeft_14 : decode cX3_piecesLeft 14 = .ok (.getfield 11, 3) := by decide +kernel
theorem dX3_piecesLeft_17 : decode cX3_piecesLeft 17 = .ok (.iload_n 2, 1) := by decide +kernel
theorem dX3_piecesLeft_18 : decode cX3_piecesLeft 18 = .ok (.aaload, 1) := by decide +kernel
theorem dX3_piecesLeft_19 : decode cX3_piecesLeft 19 = .ok (.invokevirtual 33, 3) := by decide +kernel
theorem dX3_piecesLeft_22 : decode cX3_piecesLeft 22 = .ok (.iadd, 1) := by decide +kernel
theorem dX3_piecesLeft_23 : decode cX3_piecesLeft 23 = .ok (.istore_n 1, 1) := by decide +kernel
theorem dX3_piecesLeft_24 : decode cX3_piecesLeft 24 = .ok (.iinc 2 1, 3) := by decide +kernel
theorem dX3_piecesLeft_27 : decode cX3_piecesLeft 27 = .ok (.goto (-23), 3) := by decide +kernel
theorem dX3_piecesLeft_30 : decode cX3_piecesLeft 30 = .ok (.iload_n 1, 1) := by decide +kernel
theorem dX3_piecesLeft_31 : decode cX3_piecesLeft 31 = .ok (.ireturn, 1) := by decide +kernel
theorem dX3_manyOf_0 : decode cX3_manyOf 0 = .ok (.iconst 0, 1) := by decide +kernel
theorem dX3_manyOf_1 : decode cX3_manyOf 1 = .ok (.istore_n 2, 1) := by decide +kernel
theorem dX3_manyOf_2 : decode cX3_manyOf 2 = .ok (.iconst 0, 1) := by decide +kernel
theorem dX3_manyOf_3 : decode cX3_manyOf 3 = .ok (.istore_n 3, 1) := by decide +kernel
theorem dX3_manyOf_4 : decode cX3_manyOf 4 = .ok (.iload_n 3, 1) := by decide +kernel
theorem dX3_manyOf_5 : decode cX3_manyOf 5 = .ok (.aload_n 0, 1) := by decide +kernel
theorem dX3_manyOf_6 : decode cX3_manyOf 6 = .ok (.getfield 30, 3) := by decide +kernel
theorem dX3_manyOf_9 : decode cX3_manyOf 9 = .ok (.if_icmp .ge 34, 3) := by decide +kernel
theorem dX3_manyOf_12 : decode cX3_manyOf 12 = .ok (.aload_n 0, 1) := by decide +kernel
theorem dX3_manyOf_13 : decode cX3_manyOf 13 = .ok (.getfield 11, 3) := by decide +kernel
theorem dX3_manyOf_16 : decode cX3_manyOf 16 = .ok (.iload_n 3, 1) := by decide +kernel
theorem dX3_manyOf_17 : decode cX3_manyOf 17 = .ok (.aaload, 1) := by decide +kernel
theorem dX3_manyOf_18 : decode cX3_manyOf 18 = .ok (.getfield 37, 3) := by decide +kernel
theorem dX3_manyOf_21 : decode cX3_manyOf 21 = .ok (.aload_n 1, 1) := by decide +kernel
theorem dX3_manyOf_22 : decode cX3_manyOf 22 = .ok (.if_acmp .ne 15, 3) := by decide +kernel
theorem dX3_manyOf_25 : decode cX3_manyOf 25 = .ok (.iload_n 2, 1) := by decide +kernel
theorem dX3_manyOf_26 : decode cX3_manyOf 26 = .ok (.aload_n 0, 1) := by decide +kernel
theorem dX3_manyOf_27 : decode cX3_manyOf 27 = .ok (.getfield 11, 3) := by decide +kernel
theorem dX3_manyOf_30 : decode cX3_manyOf 30 = .ok (.iload_n 3, 1) := by decide +kernel
theorem dX3_manyOf_31 : decode cX3_manyOf 31 = .ok (.aaload, 1) := by decide +kernel
theorem dX3_manyOf_32 : decode cX3_manyOf 32 = .ok (.getfield 41, 3) := by decide +kernel
theorem dX3_manyOf_35 : decode cX3_manyOf 35 = .ok (.iadd, 1) := by decide +kernel
theorem dX3_manyOf_36 : decode cX3_manyOf 36 = .ok (.istore_n 2, 1) := by decide +kernel
theorem dX3_manyOf_37 : decode cX3_manyOf 37 = .ok (.iinc 3 1, 3) := by decide +kernel
theorem dX3_manyOf_40 : decode cX3_manyOf 40 = .ok (.goto (-36), 3) := by decide +kernel
theorem dX3_manyOf_43 : decode cX3_manyOf 43 = .ok (.iload_n 2, 1) := by decide +kernel
theorem dX3_manyOf_44 : decode cX3_manyOf 44 = .ok (.ireturn, 1) := by decide +kernel
theorem dX4_init_0 : decode cX4_init 0 = .ok (.aload_n 0, 1) := by decide +kernel
theorem dX4_init_1 : decode cX4_init 1 = .ok (.invokespecial 3, 3) := by decide +kernel
theorem dX4_init_4 : decode cX4_init 4 = .ok (.aload_n 0, 1) := by decide +kernel
theorem dX4_init_5 : decode cX4_init 5 = .ok (.bipush 16, 2) := by decide +kernel
theorem dX4_init_7 : decode cX4_init 7 = .ok (.newarray .int, 2) := by decide +kernel
theorem dX4_init_9 : decode cX4_init 9 = .ok (.putfield 11, 3) := by decide +kernel
theorem dX4_init_12 : decode cX4_init 12 = .ok (.aload_n 0, 1) := by decide +kernel
theorem dX4_init_13 : decode cX4_init 13 = .ok (.bipush 16, 2) := by decide +kernel
theorem dX4_init_15 : decode cX4_init 15 = .ok (.newarray .int, 2) := by decide +kernel
theorem dX4_init_17 : decode cX4_init 17 = .ok (.putfield 15, 3) := by decide +kernel
theorem dX4_init_20 : decode cX4_init 20 = .ok (.aload_n 0, 1) := by decide +kernel
theorem dX4_init_21 : decode cX4_init 21 = .ok (.sipush 792, 3) := by decide +kernel
theorem dX4_init_24 : decode cX4_init 24 = .ok (.newarray .int, 2) := by decide +kernel
theorem dX4_init_26 : decode cX4_init 26 = .ok (.putfield 18, 3) := by decide +kernel
theorem dX4_init_29 : decode cX4_init 29 = .ok (.return_, 1) := by decide +kernel
theorem dX4_clear_0 : decode cX4_clear 0 = .ok (.aload_n 0, 1) := by decide +kernel
theorem dX4_clear_1 : decode cX4_clear 1 = .ok (.iconst 0, 1) := by decide +kernel
theorem dX4_clear_2 : decode cX4_clear 2 = .ok (.putfield 21, 3) := by decide +kernel
theorem dX4_clear_5 : decode cX4_clear 5 = .ok (.aload_n 0, 1) := by decide +kernel
theorem dX4_clear_6 : decode cX4_clear 6 = .ok (.iconst 0, 1) := by decide +kernel
theorem dX4_clear_7 : decode cX4_clear 7 = .ok (.putfield 25, 3) := by decide +kernel
theorem dX4_clear_10 : decode cX4_clear 10 = .ok (.return_, 1) := by decide +kernel
theorem dX4_add_0 : decode cX4_add 0 = .ok (.aload_n 0, 1) := by decide +kernel
theorem dX4_add_1 : decode cX4_add 1 = .ok (.getfield 21, 3) := by decide +kernel
theorem dX4_add_4 : decode cX4_add 4 = .ok (.bipush 16, 2) := by decide +kernel
theorem dX4_add_6 : decode cX4_add 6 = .ok (.if_icmp .lt 4, 3) := by decide +kernel
theorem dX4_add_9 : decode cX4_add 9 = .ok (.return_, 1) := by decide +kernel
theorem dX4_add_10 : decode cX4_add 10 = .ok (.aload_n 0, 1) := by decide +kernel
theorem dX4_add_11 : decode cX4_add 11 = .ok (.getfield 21, 3) := by decide +kernel
theorem dX4_add_14 : decode cX4_add 14 = .ok (.istore_n 3, 1) := by decide +kernel
theorem dX4_add_15 : decode cX4_add 15 = .ok (.iload_n 3, 1) := by decide +kernel
theorem dX4_add_16 : decode cX4_add 16 = .ok (.ifCond .le 49, 3) := by decide +kernel
theorem dX4_add_19 : decode cX4_add 19 = .ok (.aload_n 0, 1) := by decide +kernel
theorem dX4_add_20 : decode cX4_add 20 = .ok (.getfield 11, 3) := by decide +kernel
theorem dX4_add_23 : decode cX4_add 23 = .ok (.iload_n 3, 1) := by decide +kernel
theorem dX4_add_24 : decode cX4_add 24 = .ok (.iconst 1, 1) := by decide +kernel
theorem dX4_add_25 : decode cX4_add 25 = .ok (.isub, 1) := by decide +kernel
theorem dX4_add_26 : decode cX4_add 26 = .ok (.iaload, 1) := by decide +kernel
theorem dX4_add_27 : decode cX4_add 27 = .ok (.iload_n 1, 1) := by decide +kernel
theorem dX4_add_28 : decode cX4_add 28 = .ok (.if_icmp .ge 37, 3) := by decide +kernel
theorem dX4_add_31 : decode cX4_add 31 = .ok (.aload_n 0, 1) := by decide +kernel
theorem dX4_add_32 : decode cX4_add 32 = .ok (.getfield 11, 3) := by decide +kernel
theorem dX4_add_35 : decode cX4_add 35 = .ok (.iload_n 3, 1) := by decide +kernel
theorem dX4_add_36 : decode cX4_add 36 = .ok (.aload_n 0, 1) := by decide +kernel
theorem dX4_add_37 : decode cX4_add 37 = .ok (.getfield 11, 3) := by decide +kernel
theorem dX4_add_40 : decode cX4_add 40 = .ok (.iload_n 3, 1) := by decide +kernel
theorem dX4_add_41 : decode cX4_add 41 = .ok (.iconst 1, 1) := by decide +kernel
theorem dX4_add_42 : decode cX4_add 42 = .ok (.isub, 1) := by decide +kernel
theorem dX4_add_43 : decode cX4_add 43 = .ok (.iaload, 1) := by decide +kernel
theorem dX4_add_44 : decode cX4_add 44 = .ok (.iastore, 1) := by decide +kernel
theorem dX4_add_45 : decode cX4_add 45 = .ok (.aload_n 0, 1) := by decide +kernel
theorem dX4_add_46 : decode cX4_add 46 = .ok (.getfield 15, 3) := by decide +kernel
theorem dX4_add_49 : decode cX4_add 49 = .ok (.iload_n 3, 1) := by decide +kernel
theorem dX4_add_50 : decode cX4_add 50 = .ok (.aload_n 0, 1) := by decide +kernel
theorem dX4_add_51 : decode cX4_add 51 = .ok (.getfield 15, 3) := by decide +kernel
theorem dX4_add_54 : decode cX4_add 54 = .ok (.iload_n 3, 1) := by decide +kernel
theorem dX4_add_55 : decode cX4_add 55 = .ok (.iconst 1, 1) := by decide +kernel
theorem dX4_add_56 : decode cX4_add 56 = .ok (.isub, 1) := by decide +kernel
theorem dX4_add_57 : decode cX4_add 57 = .ok (.iaload, 1) := by decide +kernel
theorem dX4_add_58 : decode cX4_add 58 = .ok (.iastore, 1) := by decide +kernel
theorem dX4_add_59 : decode cX4_add 59 = .ok (.iinc 3 (-1), 3) := by decide +kernel
theorem dX4_add_62 : decode cX4_add 62 = .ok (.goto (-47), 3) := by decide +kernel
theorem dX4_add_65 : decode cX4_add 65 = .ok (.aload_n 0, 1) := by decide +kernel
theorem dX4_add_66 : decode cX4_add 66 = .ok (.getfield 11, 3) := by decide +kernel
theorem dX4_add_69 : decode cX4_add 69 = .ok (.iload_n 3, 1) := by decide +kernel
theorem dX4_add_70 : decode cX4_add 70 = .ok (.iload_n 1, 1) := by decide +kernel
theorem dX4_add_71 : decode cX4_add 71 = .ok (.iastore, 1) := by decide +kernel
theorem dX4_add_72 : decode cX4_add 72 = .ok (.aload_n 0, 1) := by decide +kernel
theorem dX4_add_73 : decode cX4_add 73 = .ok (.getfield 15, 3) := by decide +kernel
theorem dX4_add_76 : decode cX4_add 76 = .ok (.iload_n 3, 1) := by decide +kernel
theorem dX4_add_77 : decode cX4_add 77 = .ok (.iload_n 2, 1) := by decide +kernel
theorem dX4_add_78 : decode cX4_add 78 = .ok (.iastore, 1) := by decide +kernel
theorem dX4_add_79 : decode cX4_add 79 = .ok (.aload_n 0, 1) := by decide +kernel
theorem dX4_add_80 : decode cX4_add 80 = .ok (.dup, 1) := by decide +kernel
theorem dX4_add_81 : decode cX4_add 81 = .ok (.getfield 21, 3) := by decide +kernel
theorem dX4_add_84 : decode cX4_add 84 = .ok (.iconst 1, 1) := by decide +kernel
theorem dX4_add_85 : decode cX4_add 85 = .ok (.iadd, 1) := by decide +kernel
theorem dX4_add_86 : decode cX4_add 86 = .ok (.putfield 21, 3) := by decide +kernel
theorem dX4_add_89 : decode cX4_add 89 = .ok (.aload_n 0, 1) := by decide +kernel
theorem dX4_add_90 : decode cX4_add 90 = .ok (.dup, 1) := by decide +kernel
theorem dX4_add_91 : decode cX4_add 91 = .ok (.getfield 25, 3) := by decide +kernel
theorem dX4_add_94 : decode cX4_add 94 = .ok (.iload_n 2, 1) := by decide +kernel
theorem dX4_add_95 : decode cX4_add 95 = .ok (.iadd, 1) := by decide +kernel
theorem dX4_add_96 : decode cX4_add 96 = .ok (.putfield 25, 3) := by decide +kernel
theorem dX4_add_99 : decode cX4_add 99 = .ok (.return_, 1) := by decide +kernel
theorem dX4_parcels_0 : decode cX4_parcels 0 = .ok (.iconst 0, 1) := by decide +kernel
theorem dX4_parcels_1 : decode cX4_parcels 1 = .ok (.istore_n 1, 1) := by decide +kernel
theorem dX4_parcels_2 : decode cX4_parcels 2 = .ok (.iconst 0, 1) := by decide +kernel
theorem dX4_parcels_3 : decode cX4_parcels 3 = .ok (.istore_n 2, 1) := by decide +kernel
theorem dX4_parcels_4 : decode cX4_parcels 4 = .ok (.iload_n 2, 1) := by decide +kernel
theorem dX4_parcels_5 : decode cX4_parcels 5 = .ok (.aload_n 0, 1) := by decide +kernel
theorem dX4_parcels_6 : decode cX4_parcels 6 = .ok (.getfield 21, 3) := by decide +kernel
theorem dX4_parcels_9 : decode cX4_parcels 9 = .ok (.if_icmp .ge 108, 3) := by decide +kernel
theorem dX4_parcels_12 : decode cX4_parcels 12 = .ok (.aload_n 0, 1) := by decide +kernel
theorem dX4_parcels_13 : decode cX4_parcels 13 = .ok (.getfield 11, 3) := by decide +kernel
theorem dX4_parcels_16 : decode cX4_parcels 16 = .ok (.iload_n 2, 1) := by decide +kernel
theorem dX4_parcels_17 : decode cX4_parcels 17 = .ok (.iaload, 1) := by decide +kernel
theorem dX4_parcels_18 : decode cX4_parcels 18 = .ok (.istore_n 3, 1) := by decide +kernel
theorem dX4_parcels_19 : decode cX4_parcels 19 = .ok (.aload_n 0, 1) := by decide +kernel
theorem dX4_parcels_20 : decode cX4_parcels 20 = .ok (.getfield 15, 3) := by decide +kernel
theorem dX4_parcels_23 : decode cX4_parcels 23 = .ok (.iload_n 2, 1) := by decide +kernel
theorem dX4_parcels_24 : decode cX4_parcels 24 = .ok (.iaload, 1) := by decide +kernel
theorem dX4_parcels_25 : decode cX4_parcels 25 = .ok (.istore 4, 2) := by decide +kernel
theorem dX4_parcels_27 : decode cX4_parcels 27 = .ok (.iconst 0, 1) := by decide +kernel
theorem dX4_parcels_28 : decode cX4_parcels 28 = .ok (.istore 5, 2) := by decide +kernel
theorem dX4_parcels_30 : decode cX4_parcels 30 = .ok (.iload 5, 2) := by decide +kernel
theorem dX4_parcels_32 : decode cX4_parcels 32 = .ok (.sipush 792, 3) := by decide +kernel
theorem dX4_parcels_35 : decode cX4_parcels 35 = .ok (.if_icmp .ge 76, 3) := by decide +kernel
theorem dX4_parcels_38 : decode cX4_parcels 38 = .ok (.iload 4, 2) := by decide +kernel
theorem dX4_parcels_40 : decode cX4_parcels 40 = .ok (.ifCond .le 71, 3) := by decide +kernel
theorem dX4_parcels_43 : decode cX4_parcels 43 = .ok (.iload_n 3, 1) := by decide +kernel
theorem dX4_parcels_44 : decode cX4_parcels 44 = .ok (.ifCond .le 67, 3) := by decide +kernel
theorem dX4_parcels_47 : decode cX4_parcels 47 = .ok (.iload 5, 2) := by decide +kernel
theorem dX4_parcels_49 : decode cX4_parcels 49 = .ok (.iload_n 1, 1) := by decide +kernel
theorem dX4_parcels_50 : decode cX4_parcels 50 = .ok (.if_icmp .ne 14, 3) := by decide +kernel
theorem dX4_parcels_53 : decode cX4_parcels 53 = .ok (.aload_n 0, 1) := by decide +kernel
theorem dX4_parcels_54 : decode cX4_parcels 54 = .ok (.getfield 18, 3) := by decide +kernel
theorem dX4_parcels_57 : decode cX4_parcels 57 = .ok (.iload 5, 2) := by decide +kernel
theorem dX4_parcels_59 : decode cX4_parcels 59 = .ok (.iconst 0, 1) := by decide +kernel
theorem dX4_parcels_60 : decode cX4_parcels 60 = .ok (.iastore, 1) := by decide +kernel
theorem dX4_parcels_61 : decode cX4_parcels 61 = .ok (.iinc 1 1, 3) := by decide +kernel
theorem dX4_parcels_64 : decode cX4_parcels 64 = .ok (.iload 4, 2) := by decide +kernel
theorem dX4_parcels_66 : decode cX4_parcels 66 = .ok (.sipush 2000, 3) := by decide +kernel
theorem dX4_parcels_69 : decode cX4_parcels 69 = .ok (.aload_n 0, 1) := by decide +kernel
theorem dX4_parcels_70 : decode cX4_parcels 70 = .ok (.getfield 18, 3) := by decide +kernel
theorem dX4_parcels_73 : decode cX4_parcels 73 = .ok (.iload 5, 2) := by decide +kernel
theorem dX4_parcels_75 : decode cX4_parcels 75 = .ok (.iaload, 1) := by decide +kernel
theorem dX4_parcels_76 : decode cX4_parcels 76 = .ok (.isub, 1) := by decide +kernel
theorem dX4_parcels_77 : decode cX4_parcels 77 = .ok (.iload_n 3, 1) := by decide +kernel
theorem dX4_parcels_78 : decode cX4_parcels 78 = .ok (.idiv, 1) := by decide +kernel
theorem dX4_parcels_79 : decode cX4_parcels 79 = .ok (.invokestatic 28, 3) := by decide +kernel
theorem dX4_parcels_82 : decode cX4_parcels 82 = .ok (.istore 6, 2) := by decide +kernel
theorem dX4_parcels_84 : decode cX4_parcels 84 = .ok (.aload_n 0, 1) := by decide +kernel
theorem dX4_parcels_85 : decode cX4_parcels 85 = .ok (.getfield 18, 3) := by decide +kernel
theorem dX4_parcels_88 : decode cX4_parcels 88 = .ok (.iload 5, 2) := by decide +kernel
theorem dX4_parcels_90 : decode cX4_parcels 90 = .ok (.dup2, 1) := by decide +kernel
theorem dX4_parcels_91 : decode cX4_parcels 91 = .ok (.iaload, 1) := by decide +kernel
theorem dX4_parcels_92 : decode cX4_parcels 92 = .ok (.iload 6, 2) := by decide +kernel
theorem dX4_parcels_94 : decode cX4_parcels 94 = .ok (.iload_n 3, 1) := by decide +kernel
theorem dX4_parcels_95 : decode cX4_parcels 95 = .ok (.imul, 1) := by decide +kernel
theorem dX4_parcels_96 : decode cX4_parcels 96 = .ok (.iadd, 1) := by decide +kernel
theorem dX4_parcels_97 : decode cX4_parcels 97 = .ok (.iastore, 1) := by decide +kernel
theorem dX4_parcels_98 : decode cX4_parcels 98 = .ok (.iload 4, 2) := by decide +kernel
theorem dX4_parcels_100 : decode cX4_parcels 100 = .ok (.iload 6, 2) := by decide +kernel
theorem dX4_parcels_102 : decode cX4_parcels 102 = .ok (.isub, 1) := by decide +kernel
theorem dX4_parcels_103 : decode cX4_parcels 103 = .ok (.istore 4, 2) := by decide +kernel
theorem dX4_parcels_105 : decode cX4_parcels 105 = .ok (.iinc 5 1, 3) := by decide +kernel
theorem dX4_parcels_108 : decode cX4_parcels 108 = .ok (.goto (-78), 3) := by decide +kernel
theorem dX4_parcels_111 : decode cX4_parcels 111 = .ok (.iinc 2 1, 3) := by decide +kernel
theorem dX4_parcels_114 : decode cX4_parcels 114 = .ok (.goto (-110), 3) := by decide +kernel
theorem dX4_parcels_117 : decode cX4_parcels 117 = .ok (.iload_n 1, 1) := by decide +kernel
theorem dX4_parcels_118 : decode cX4_parcels 118 = .ok (.ireturn, 1) := by decide +kernel
theorem dX5_init_0 : decode cX5_init 0 = .ok (.aload_n 0, 1) := by decide +kernel
theorem dX5_init_1 : decode cX5_init 1 = .ok (.invokespecial 3, 3) := by decide +kernel
theorem dX5_init_4 : decode cX5_init 4 = .ok (.aload_n 0, 1) := by decide +kernel
theorem dX5_init_5 : decode cX5_init 5 = .ok (.iconst 4, 1) := by decide +kernel
theorem dX5_init_6 : decode cX5_init 6 = .ok (.newarray .int, 2) := by decide +kernel
theorem dX5_init_8 : decode cX5_init 8 = .ok (.dup, 1) := by decide +kernel
theorem dX5_init_9 : decode cX5_init 9 = .ok (.iconst 0, 1) := by decide +kernel
theorem dX5_init_10 : decode cX5_init 10 = .ok (.bipush 10, 2) := by decide +kernel
theorem dX5_init_12 : decode cX5_init 12 = .ok (.iastore, 1) := by decide +kernel
theorem dX5_init_13 : decode cX5_init 13 = .ok (.dup, 1) := by decide +kernel
theorem dX5_init_14 : decode cX5_init 14 = .ok (.iconst 1, 1) := by decide +kernel
theorem dX5_init_15 : decode cX5_init 15 = .ok (.bipush 50, 2) := by decide +kernel
theorem dX5_init_17 : decode cX5_init 17 = .ok (.iastore, 1) := by decide +kernel
theorem dX5_init_18 : decode cX5_init 18 = .ok (.dup, 1) := by decide +kernel
theorem dX5_init_19 : decode cX5_init 19 = .ok (.iconst 2, 1) := by decide +kernel
theorem dX5_init_20 : decode cX5_init 20 = .ok (.sipush 10000, 3) := by decide +kernel
theorem dX5_init_23 : decode cX5_init 23 = .ok (.iastore, 1) := by decide +kernel
theorem dX5_init_24 : decode cX5_init 24 = .ok (.dup, 1) := by decide +kernel
theorem dX5_init_25 : decode cX5_init 25 = .ok (.iconst 3, 1) := by decide +kernel
theorem dX5_init_26 : decode cX5_init 26 = .ok (.bipush 14, 2) := by decide +kernel
theorem dX5_init_28 : decode cX5_init 28 = .ok (.iastore, 1) := by decide +kernel
theorem dX5_init_29 : decode cX5_init 29 = .ok (.putfield 9, 3) := by decide +kernel
theorem dX5_init_32 : decode cX5_init 32 = .ok (.aload_n 0, 1) := by decide +kernel
theorem dX5_init_33 : decode cX5_init 33 = .ok (.bipush 30, 2) := by decide +kernel
theorem dX5_init_35 : decode cX5_init 35 = .ok (.newarray .int, 2) := by decide +kernel
theorem dX5_init_37 : decode cX5_init 37 = .ok (.putfield 15, 3) := by decide +kernel
theorem dX5_init_40 : decode cX5_init 40 = .ok (.iconst 0, 1) := by decide +kernel
theorem dX5_init_41 : decode cX5_init 41 = .ok (.istore_n 1, 1) := by decide +kernel
theorem dX5_init_42 : decode cX5_init 42 = .ok (.iload_n 1, 1) := by decide +kernel
theorem dX5_init_43 : decode cX5_init 43 = .ok (.bipush 30, 2) := by decide +kernel
theorem dX5_init_45 : decode cX5_init 45 = .ok (.if_icmp .ge 16, 3) := by decide +kernel
theorem dX5_init_48 : decode cX5_init 48 = .ok (.aload_n 0, 1) := by decide +kernel
theorem dX5_init_49 : decode cX5_init 49 = .ok (.getfield 15, 3) := by decide +kernel
theorem dX5_init_52 : decode cX5_init 52 = .ok (.iload_n 1, 1) := by decide +kernel
theorem dX5_init_53 : decode cX5_init 53 = .ok (.iconst (-1), 1) := by decide +kernel
theorem dX5_init_54 : decode cX5_init 54 = .ok (.iastore, 1) := by decide +kernel
theorem dX5_init_55 : decode cX5_init 55 = .ok (.iinc 1 1, 3) := by decide +kernel
theorem dX5_init_58 : decode cX5_init 58 = .ok (.goto (-16), 3) := by decide +kernel
theorem dX5_init_61 : decode cX5_init 61 = .ok (.return_, 1) := by decide +kernel
theorem dX5_copy_0 : decode cX5_copy 0 = .ok (.aload_n 1, 1) := by decide +kernel
theorem dX5_copy_1 : decode cX5_copy 1 = .ok (.getfield 9, 3) := by decide +kernel
theorem dX5_copy_4 : decode cX5_copy 4 = .ok (.iconst 0, 1) := by decide +kernel
theorem dX5_copy_5 : decode cX5_copy 5 = .ok (.aload_n 0, 1) := by decide +kernel
theorem dX5_copy_6 : decode cX5_copy 6 = .ok (.getfield 9, 3) := by decide +kernel
theorem dX5_copy_9 : decode cX5_copy 9 = .ok (.iconst 0, 1) := by decide +kernel
theorem dX5_copy_10 : decode cX5_copy 10 = .ok (.iconst 4, 1) := by decide +kernel
theorem dX5_copy_11 : decode cX5_copy 11 = .ok (.invokestatic 18, 3) := by decide +kernel
theorem dX5_copy_14 : decode cX5_copy 14 = .ok (.aload_n 1, 1) := by decide +kernel
theorem dX5_copy_15 : decode cX5_copy 15 = .ok (.getfield 15, 3) := by decide +kernel
theorem dX5_copy_18 : decode cX5_copy 18 = .ok (.iconst 0, 1) := by decide +kernel
theorem dX5_copy_19 : decode cX5_copy 19 = .ok (.aload_n 0, 1) := by decide +kernel
theorem dX5_copy_20 : decode cX5_copy 20 = .ok (.getfield 15, 3) := by decide +kernel
theorem dX5_copy_23 : decode cX5_copy 23 = .ok (.iconst 0, 1) := by decide +kernel
theorem dX5_copy_24 : decode cX5_copy 24 = .ok (.bipush 30, 2) := by decide +kernel
theorem dX5_copy_26 : decode cX5_copy 26 = .ok (.invokestatic 18, 3) := by decide +kernel
theorem dX5_copy_29 : decode cX5_copy 29 = .ok (.return_, 1) := by decide +kernel
theorem dX5_postOf_0 : decode cX5_postOf 0 = .ok (.iload_n 1, 1) := by decide +kernel
theorem dX5_postOf_1 : decode cX5_postOf 1 = .ok (.aload_n 0, 1) := by decide +kernel
theorem dX5_postOf_2 : decode cX5_postOf 2 = .ok (.getfield 9, 3) := by decide +kernel
theorem dX5_postOf_5 : decode cX5_postOf 5 = .ok (.iconst 2, 1) := by decide +kernel
theorem dX5_postOf_6 : decode cX5_postOf 6 = .ok (.iaload, 1) := by decide +kernel
theorem dX5_postOf_7 : decode cX5_postOf 7 = .ok (.if_icmp .ge 12, 3) := by decide +kernel
theorem dX5_postOf_10 : decode cX5_postOf 10 = .ok (.aload_n 0, 1) := by decide +kernel
theorem dX5_postOf_11 : decode cX5_postOf 11 = .ok (.getfield 9, 3) := by decide +kernel
theorem dX5_postOf_14 : decode cX5_postOf 14 = .ok (.iconst 1, 1) := by decide +kernel
theorem dX5_postOf_15 : decode cX5_postOf 15 = .ok (.iaload, 1) := by decide +kernel
theorem dX5_postOf_16 : decode cX5_postOf 16 = .ok (.goto 4, 3) := by decide +kernel
theorem dX5_postOf_19 : decode cX5_postOf 19 = .ok (.iconst 0, 1) := by decide +kernel
theorem dX5_postOf_20 : decode cX5_postOf 20 = .ok (.ireturn, 1) := by decide +kernel
theorem dX6_init_0 : decode cX6_init 0 = .ok (.aload_n 0, 1) := by decide +kernel
theorem dX6_init_1 : decode cX6_init 1 = .ok (.invokespecial 1, 3) := by decide +kernel
theorem dX6_init_4 : decode cX6_init 4 = .ok (.aload_n 0, 1) := by decide +kernel
theorem dX6_init_5 : decode cX6_init 5 = .ok (.iload_n 1, 1) := by decide +kernel
theorem dX6_init_6 : decode cX6_init 6 = .ok (.putfield 7, 3) := by decide +kernel
theorem dX6_init_9 : decode cX6_init 9 = .ok (.aload_n 0, 1) := by decide +kernel
theorem dX6_init_10 : decode cX6_init 10 = .ok (.iload_n 2, 1) := by decide +kernel
theorem dX6_init_11 : decode cX6_init 11 = .ok (.putfield 13, 3) := by decide +kernel
theorem dX6_init_14 : decode cX6_init 14 = .ok (.aload_n 0, 1) := by decide +kernel
theorem dX6_init_15 : decode cX6_init 15 = .ok (.iload_n 3, 1) := by decide +kernel
theorem dX6_init_16 : decode cX6_init 16 = .ok (.putfield 16, 3) := by decide +kernel
theorem dX6_init_19 : decode cX6_init 19 = .ok (.aload_n 0, 1) := by decide +kernel
theorem dX6_init_20 : decode cX6_init 20 = .ok (.iload 4, 2) := by decide +kernel
theorem dX6_init_22 : decode cX6_init 22 = .ok (.putfield 19, 3) := by decide +kernel
theorem dX6_init_25 : decode cX6_init 25 = .ok (.return_, 1) := by decide +kernel
theorem dX7_init_0 : decode cX7_init 0 = .ok (.aload_n 0, 1) := by decide +kernel
theorem dX7_init_1 : decode cX7_init 1 = .ok (.invokespecial 3, 3) := by decide +kernel
theorem dX7_init_4 : decode cX7_init 4 = .ok (.aload_n 0, 1) := by decide +kernel
theorem dX7_init_5 : decode cX7_init 5 = .ok (.sipush 400, 3) := by decide +kernel
theorem dX7_init_8 : decode cX7_init 8 = .ok (.newarray .byte, 2) := by decide +kernel
theorem dX7_init_10 : decode cX7_init 10 = .ok (.putfield 11, 3) := by decide +kernel
theorem dX7_init_13 : decode cX7_init 13 = .ok (.aload_n 0, 1) := by decide +kernel
theorem dX7_init_14 : decode cX7_init 14 = .ok (.iconst (-1), 1) := by decide +kernel
theorem dX7_init_15 : decode cX7_init 15 = .ok (.putfield 15, 3) := by decide +kernel
theorem dX7_init_18 : decode cX7_init 18 = .ok (.return_, 1) := by decide +kernel
theorem dX7_hasRoom_0 : decode cX7_hasRoom 0 = .ok (.aload_n 0, 1) := by decide +kernel
theorem dX7_hasRoom_1 : decode cX7_hasRoom 1 = .ok (.getfield 19, 3) := by decide +kernel
theorem dX7_hasRoom_4 : decode cX7_hasRoom 4 = .ok (.bipush 20, 2) := by decide +kernel
theorem dX7_hasRoom_6 : decode cX7_hasRoom 6 = .ok (.iadd, 1) := by decide +kernel
theorem dX7_hasRoom_7 : decode cX7_hasRoom 7 = .ok (.sipush 400, 3) := by decide +kernel
theorem dX7_hasRoom_10 : decode cX7_hasRoom 10 = .ok (.if_icmp .gt 7, 3) := by decide +kernel
theorem dX7_hasRoom_13 : decode cX7_hasRoom 13 = .ok (.iconst 1, 1) := by decide +kernel
theorem dX7_hasRoom_14 : decode cX7_hasRoom 14 = .ok (.goto 4, 3) := by decide +kernel
theorem dX7_hasRoom_17 : decode cX7_hasRoom 17 = .ok (.iconst 0, 1) := by decide +kernel
theorem dX7_hasRoom_18 : decode cX7_hasRoom 18 = .ok (.ireturn, 1) := by decide +kernel
theorem dX7_put_0 : decode cX7_put 0 = .ok (.bipush 24, 2) := by decide +kernel
theorem dX7_put_2 : decode cX7_put 2 = .ok (.istore_n 2, 1) := by decide +kernel
theorem dX7_put_3 : decode cX7_put 3 = .ok (.iload_n 2, 1) := by decide +kernel
theorem dX7_put_4 : decode cX7_put 4 = .ok (.ifCond .lt 42, 3) := by decide +kernel
theorem dX7_put_7 : decode cX7_put 7 = .ok (.aload_n 0, 1) := by decide +kernel
theorem dX7_put_8 : decode cX7_put 8 = .ok (.getfield 19, 3) := by decide +kernel
theorem dX7_put_11 : decode cX7_put 11 = .ok (.sipush 400, 3) := by decide +kernel
theorem dX7_put_14 : decode cX7_put 14 = .ok (.if_icmp .ge 32, 3) := by decide +kernel
theorem dX7_put_17 : decode cX7_put 17 = .ok (.aload_n 0, 1) := by decide +kernel
theorem dX7_put_18 : decode cX7_put 18 = .ok (.getfield 11, 3) := by decide +kernel
theorem dX7_put_21 : decode cX7_put 21 = .ok (.aload_n 0, 1) := by decide +kernel
theorem dX7_put_22 : decode cX7_put 22 = .ok (.getfield 19, 3) := by decide +kernel
theorem dX7_put_25 : decode cX7_put 25 = .ok (.iload_n 1, 1) := by decide +kernel
theorem dX7_put_26 : decode cX7_put 26 = .ok (.iload_n 2, 1) := by decide +kernel
theorem dX7_put_27 : decode cX7_put 27 = .ok (.ishr, 1) := by decide +kernel
theorem dX7_put_28 : decode cX7_put 28 = .ok (.i2b, 1) := by decide +kernel
theorem dX7_put_29 : decode cX7_put 29 = .ok (.bastore, 1) := by decide +kernel
theorem dX7_put_30 : decode cX7_put 30 = .ok (.aload_n 0, 1) := by decide +kernel
theorem dX7_put_31 : decode cX7_put 31 = .ok (.dup, 1) := by decide +kernel
theorem dX7_put_32 : decode cX7_put 32 = .ok (.getfield 19, 3) := by decide +kernel
theorem dX7_put_35 : decode cX7_put 35 = .ok (.iconst 1, 1) := by decide +kernel
theorem dX7_put_36 : decode cX7_put 36 = .ok (.iadd, 1) := by decide +kernel
theorem dX7_put_37 : decode cX7_put 37 = .ok (.putfield 19, 3) := by decide +kernel
theorem dX7_put_40 : decode cX7_put 40 = .ok (.iinc 2 (-8), 3) := by decide +kernel
theorem dX7_put_43 : decode cX7_put 43 = .ok (.goto (-40), 3) := by decide +kernel
theorem dX7_put_46 : decode cX7_put 46 = .ok (.return_, 1) := by decide +kernel
set_option maxRecDepth 20000 in
theorem glX7_open_0 : GoodIn wsX7_open ([.fieldLink RX7 15 "PostHouse$Tape" "wrong" "I", .fieldLink RX7 22 "PostHouse$Tape" "next" "I", .methodLink RX7 25 yX7_skip, .instanceMethod yX7_skip, .selects RX7 yX7_skip yX7_skip, .initialized RX7, .code yX7_skip cX7_skip 2 none, .fieldLink RX7 19 "PostHouse$Tape" "length" "I", .fieldLink RX7 11 "PostHouse$Tape" "bytes" "[B"]) := goodIn_sub (fun _ h => List.mem_cons_of_mem _ (List.mem_append_left _ (h))) (by decide +kernel)
set_option maxRecDepth 20000 in
theorem glX7_open_1 : GoodIn wsX7_open (wsX70) := goodIn_sub (fun _ h => List.mem_cons_of_mem _ (List.mem_append_right _ (h))) ag_wsX70
set_option maxRecDepth 20000 in
theorem ggX7_open_X7_skip : GoodIn wsX7_open wsX7_skip := goodIn_c (glX7_open_0 _ (List.mem_of_getElem? (i := 6) rfl)) (goodIn_app (goodIn_c (glX7_open_0 _ (List.mem_of_getElem? (i := 1) rfl)) (goodIn_c (glX7_open_0 _ (List.mem_of_getElem? (i := 7) rfl)) (goodIn_c (glX7_open_0 _ (List.mem_of_getElem? (i := 8) rfl)) (goodIn_n)))) (glX7_open_1))
set_option maxRecDepth 20000 in
theorem gX7_open_X7_skip : GoodIn wsX7_open (wsV RX7 25 RX7 yX7_skip wsX7_skip) := goodIn_app (goodIn_of _ (by decide +kernel)) ggX7_open_X7_skip
theorem dX7_open_0 : decode cX7_open 0 = .ok (.aload_n 0, 1) := by decide +kernel
theorem dX7_open_1 : decode cX7_open 1 = .ok (.iconst (-1), 1) := by decide +kernel
theorem dX7_open_2 : decode cX7_open 2 = .ok (.putfield 15, 3) := by decide +kernel
theorem dX7_open_5 : decode cX7_open 5 = .ok (.aload_n 0, 1) := by decide +kernel
theorem dX7_open_6 : decode cX7_open 6 = .ok (.iconst 0, 1) := by decide +kernel
theorem dX7_open_7 : decode cX7_open 7 = .ok (.putfield 22, 3) := by decide +kernel
theorem dX7_open_10 : decode cX7_open 10 = .ok (.aload_n 0, 1) := by decide +kernel
theorem dX7_open_11 : decode cX7_open 11 = .ok (.iconst 0, 1) := by decide +kernel
theorem dX7_open_12 : decode cX7_open 12 = .ok (.invokevirtual 25, 3) := by decide +kernel
theorem dX7_open_15 : decode cX7_open 15 = .ok (.return_, 1) := by decide +kernel
theorem dX7_refuse_0 : decode cX7_refuse 0 = .ok (.aload_n 0, 1) := by decide +kernel
theorem dX7_refuse_1 : decode cX7_refuse 1 = .ok (.getfield 15, 3) := by decide +kernel
theorem dX7_refuse_4 : decode cX7_refuse 4 = .ok (.iconst (-1), 1) := by decide +kernel
theorem dX7_refuse_5 : decode cX7_refuse 5 = .ok (.if_icmp .ne 8, 3) := by decide +kernel
theorem dX7_refuse_8 : decode cX7_refuse 8 = .ok (.aload_n 0, 1) := by decide +kernel
theorem dX7_refuse_9 : decode cX7_refuse 9 = .ok (.iload_n 1, 1) := by decide +kernel
theorem dX7_refuse_10 : decode cX7_refuse 10 = .ok (.putfield 15, 3) := by decide +kernel
theorem dX7_refuse_13 : decode cX7_refuse 13 = .ok (.return_, 1) := by decide +kernel
set_option maxRecDepth 20000 in
theorem glX7_takesWord_0 : GoodIn wsX7_takesWord (wsX7_takesWord_r1) := goodIn_sub (fun _ h => List.mem_cons_of_mem _ (List.mem_append_left _ (List.mem_append_left _ (h)))) (by decide +kernel)
set_option maxRecDepth 20000 in
theorem ggX7_takesWord_J0_length_8abf5 : GoodIn wsX7_takesWord wsJ0_length_8abf5 := goodIn_c (glX7_takesWord_0 _ (List.mem_of_getElem? (i := 7) rfl)) (goodIn_c (glX7_takesWord_0 _ (List.mem_of_getElem? (i := 8) rfl)) (goodIn_c (glX7_takesWord_0 _ (List.mem_of_getElem? (i := 9) rfl)) (goodIn_c (glX7_takesWord_0 _ (List.mem_of_getElem? (i := 10) rfl)) (goodIn_c (glX7_takesWord_0 _ (List.mem_of_getElem? (i := 11) rfl)) (goodIn_c (glX7_takesWord_0 _ (List.mem_of_getElem? (i := 6) rfl)) (goodIn_c (glX7_takesWord_0 _ (List.mem_of_getElem? (i := 12) rfl)) (goodIn_c (glX7_takesWord_0 _ (List.mem_of_getElem? (i := 13) rfl)) (goodIn_c (glX7_takesWord_0 _ (List.mem_of_getElem? (i := 14) rfl)) (goodIn_n)))))))))
set_option maxRecDepth 20000 in
theorem gX7_takesWord_J0_length_8abf5 : GoodIn wsX7_takesWord (wsV RX7 29 RJ0 yJ0_length_8abf5 wsJ0_length_8abf5) := goodIn_app (goodIn_of _ (by decide +kernel)) ggX7_takesWord_J0_length_8abf5
set_option maxRecDepth 20000 in
theorem glX7_takesWord_3 : GoodIn wsX7_takesWord (wsX70) := goodIn_sub (fun _ h => List.mem_cons_of_mem _ (List.mem_append_right _ (h))) ag_wsX70
set_option maxRecDepth 20000 in
theorem ggX7_takesWord_X7_run : GoodIn wsX7_takesWord wsX7_run := goodIn_c (glX7_takesWord_0 _ (List.mem_of_getElem? (i := 19) rfl)) (goodIn_app (goodIn_c (glX7_takesWord_0 _ (List.mem_of_getElem? (i := 0) rfl)) (goodIn_c (glX7_takesWord_0 _ (List.mem_of_getElem? (i := 1) rfl)) (goodIn_c (glX7_takesWord_0 _ (List.mem_of_getElem? (i := 2) rfl)) (goodIn_n)))) (glX7_takesWord_3))
set_option maxRecDepth 20000 in
theorem gX7_takesWord_X7_run : GoodIn wsX7_takesWord (wsV RX7 34 RX7 yX7_run wsX7_run) := goodIn_app (goodIn_of _ (by decide +kernel)) ggX7_takesWord_X7_run
set_option maxRecDepth 20000 in
theorem glX7_takesWord_1 : GoodIn wsX7_takesWord (wsX7_takesWord_r2) := goodIn_sub (fun _ h => List.mem_cons_of_mem _ (List.mem_append_left _ (List.mem_append_right _ (List.mem_append_left _ (h))))) (by decide +kernel)
set_option maxRecDepth 20000 in
theorem glX7_takesWord_2 : GoodIn wsX7_takesWord (wsX7_takesWord_r3) := goodIn_sub (fun _ h => List.mem_cons_of_mem _ (List.mem_append_left _ (List.mem_append_right _ (List.mem_append_right _ (h))))) (by decide +kernel)
set_option maxRecDepth 20000 in
theorem ggX7_takesWord_J0_charAt_5068e : GoodIn wsX7_takesWord wsJ0_charAt_5068e := goodIn_c (glX7_takesWord_0 _ (List.mem_of_getElem? (i := 23) rfl)) (goodIn_app (goodIn_c (glX7_takesWord_0 _ (List.mem_of_getElem? (i := 8) rfl)) (goodIn_c (glX7_takesWord_1 _ (List.mem_of_getElem? (i := 0) rfl)) (goodIn_c (glX7_takesWord_1 _ (List.mem_of_getElem? (i := 1) rfl)) (goodIn_c (glX7_takesWord_1 _ (List.mem_of_getElem? (i := 2) rfl)) (goodIn_c (glX7_takesWord_0 _ (List.mem_of_getElem? (i := 6) rfl)) (goodIn_c (glX7_takesWord_1 _ (List.mem_of_getElem? (i := 3) rfl)) (goodIn_c (glX7_takesWord_0 _ (List.mem_of_getElem? (i := 13) rfl)) (goodIn_c (glX7_takesWord_0 _ (List.mem_of_getElem? (i := 14) rfl)) (goodIn_c (glX7_takesWord_1 _ (List.mem_of_getElem? (i := 4) rfl)) (goodIn_c (glX7_takesWord_1 _ (List.mem_of_getElem? (i := 5) rfl)) (goodIn_c (glX7_takesWord_1 _ (List.mem_of_getElem? (i := 6) rfl)) (goodIn_c (glX7_takesWord_1 _ (List.mem_of_getElem? (i := 7) rfl)) (goodIn_c (glX7_takesWord_1 _ (List.mem_of_getElem? (i := 8) rfl)) (goodIn_c (glX7_takesWord_1 _ (List.mem_of_getElem? (i := 9) rfl)) (goodIn_c (glX7_takesWord_1 _ (List.mem_of_getElem? (i := 10) rfl)) (goodIn_c (glX7_takesWord_1 _ (List.mem_of_getElem? (i := 11) rfl)) (goodIn_c (glX7_takesWord_1 _ (List.mem_of_getElem? (i := 12) rfl)) (goodIn_c (glX7_takesWord_1 _ (List.mem_of_getElem? (i := 13) rfl)) (goodIn_c (glX7_takesWord_1 _ (List.mem_of_getElem? (i := 14) rfl)) (goodIn_c (glX7_takesWord_1 _ (List.mem_of_getElem? (i := 15) rfl)) (goodIn_c (glX7_takesWord_1 _ (List.mem_of_getElem? (i := 16) rfl)) (goodIn_c (glX7_takesWord_1 _ (List.mem_of_getElem? (i := 17) rfl)) (goodIn_c (glX7_takesWord_1 _ (List.mem_of_getElem? (i := 18) rfl)) (goodIn_c (glX7_takesWord_1 _ (List.mem_of_getElem? (i := 19) rfl)) (goodIn_n))))))))))))))))))))))))) (goodIn_c (glX7_takesWord_1 _ (List.mem_of_getElem? (i := 20) rfl)) (goodIn_c (glX7_takesWord_1 _ (List.mem_of_getElem? (i := 21) rfl)) (goodIn_c (glX7_takesWord_1 _ (List.mem_of_getElem? (i := 22) rfl)) (goodIn_c (glX7_takesWord_1 _ (List.mem_of_getElem? (i := 23) rfl)) (goodIn_c (glX7_takesWord_2 _ (List.mem_of_getElem? (i := 0) rfl)) (goodIn_c (glX7_takesWord_2 _ (List.mem_of_getElem? (i := 1) rfl)) (goodIn_c (glX7_takesWord_2 _ (List.mem_of_getElem? (i := 2) rfl)) (goodIn_c (glX7_takesWord_2 _ (List.mem_of_getElem? (i := 3) rfl)) (goodIn_c (glX7_takesWord_2 _ (List.mem_of_getElem? (i := 4) rfl)) (goodIn_c (glX7_takesWord_2 _ (List.mem_of_getElem? (i := 5) rfl)) (goodIn_c (glX7_takesWord_2 _ (List.mem_of_getElem? (i := 6) rfl)) (goodIn_c (glX7_takesWord_2 _ (List.mem_of_getElem? (i := 7) rfl)) (goodIn_c (glX7_takesWord_2 _ (List.mem_of_getElem? (i := 8) rfl)) (goodIn_n)))))))))))))))
set_option maxRecDepth 20000 in
theorem gX7_takesWord_J0_charAt_5068e : GoodIn wsX7_takesWord (wsV RX7 38 RJ0 yJ0_charAt_5068e wsJ0_charAt_5068e) := goodIn_app (goodIn_of _ (by decide +kernel)) ggX7_takesWord_J0_charAt_5068e
set_option maxRecDepth 20000 in
theorem ggX7_takesWord_X7_skip : GoodIn wsX7_takesWord wsX7_skip := goodIn_c (glX7_takesWord_2 _ (List.mem_of_getElem? (i := 12) rfl)) (goodIn_app (goodIn_c (glX7_takesWord_0 _ (List.mem_of_getElem? (i := 0) rfl)) (goodIn_c (glX7_takesWord_0 _ (List.mem_of_getElem? (i := 1) rfl)) (goodIn_c (glX7_takesWord_0 _ (List.mem_of_getElem? (i := 2) rfl)) (goodIn_n)))) (glX7_takesWord_3))
set_option maxRecDepth 20000 in
theorem gX7_takesWord_X7_skip : GoodIn wsX7_takesWord (wsV RX7 25 RX7 yX7_skip wsX7_skip) := goodIn_app (goodIn_of _ (by decide +kernel)) ggX7_takesWord_X7_skip
theorem dX7_takesWord_0 : decode cX7_takesWord 0 = .ok (.aload_n 1, 1) := by decide +kernel
theorem dX7_takesWord_1 : decode cX7_takesWord 1 = .ok (.invokevirtual 29, 3) := by decide +kernel
theorem dX7_takesWord_4 : decode cX7_takesWord 4 = .ok (.istore_n 2, 1) := by decide +kernel
theorem dX7_takesWord_5 : decode cX7_takesWord 5 = .ok (.aload_n 0, 1) := by decide +kernel
theorem dX7_takesWord_6 : decode cX7_takesWord 6 = .ok (.bipush 97, 2) := by decide +kernel
theorem dX7_takesWord_8 : decode cX7_takesWord 8 = .ok (.bipush 122, 2) := by decide +kernel
theorem dX7_takesWord_10 : decode cX7_takesWord 10 = .ok (.invokevirtual 34, 3) := by decide +kernel
theorem dX7_takesWord_13 : decode cX7_takesWord 13 = .ok (.iload_n 2, 1) := by decide +kernel
theorem dX7_takesWord_14 : decode cX7_takesWord 14 = .ok (.if_icmp .eq 5, 3) := by decide +kernel
theorem dX7_takesWord_17 : decode cX7_takesWord 17 = .ok (.iconst 0, 1) := by decide +kernel
theorem dX7_takesWord_18 : decode cX7_takesWord 18 = .ok (.ireturn, 1) := by decide +kernel
theorem dX7_takesWord_19 : decode cX7_takesWord 19 = .ok (.iconst 0, 1) := by decide +kernel
theorem dX7_takesWord_20 : decode cX7_takesWord 20 = .ok (.istore_n 3, 1) := by decide +kernel
theorem dX7_takesWord_21 : decode cX7_takesWord 21 = .ok (.iload_n 3, 1) := by decide +kernel
theorem dX7_takesWord_22 : decode cX7_takesWord 22 = .ok (.iload_n 2, 1) := by decide +kernel
theorem dX7_takesWord_23 : decode cX7_takesWord 23 = .ok (.if_icmp .ge 43, 3) := by decide +kernel
theorem dX7_takesWord_26 : decode cX7_takesWord 26 = .ok (.aload_n 0, 1) := by decide +kernel
theorem dX7_takesWord_27 : decode cX7_takesWord 27 = .ok (.getfield 22, 3) := by decide +kernel
theorem dX7_takesWord_30 : decode cX7_takesWord 30 = .ok (.iload_n 3, 1) := by decide +kernel
theorem dX7_takesWord_31 : decode cX7_takesWord 31 = .ok (.iadd, 1) := by decide +kernel
theorem dX7_takesWord_32 : decode cX7_takesWord 32 = .ok (.aload_n 0, 1) := by decide +kernel
theorem dX7_takesWord_33 : decode cX7_takesWord 33 = .ok (.getfield 19, 3) := by decide +kernel
theorem dX7_takesWord_36 : decode cX7_takesWord 36 = .ok (.if_icmp .ge 30, 3) := by decide +kernel
theorem dX7_takesWord_39 : decode cX7_takesWord 39 = .ok (.aload_n 0, 1) := by decide +kernel
theorem dX7_takesWord_40 : decode cX7_takesWord 40 = .ok (.getfield 11, 3) := by decide +kernel
theorem dX7_takesWord_43 : decode cX7_takesWord 43 = .ok (.aload_n 0, 1) := by decide +kernel
theorem dX7_takesWord_44 : decode cX7_takesWord 44 = .ok (.getfield 22, 3) := by decide +kernel
theorem dX7_takesWord_47 : decode cX7_takesWord 47 = .ok (.iload_n 3, 1) := by decide +kernel
theorem dX7_takesWord_48 : decode cX7_takesWord 48 = .ok (.iadd, 1) := by decide +kernel
theorem dX7_takesWord_49 : decode cX7_takesWord 49 = .ok (.baload, 1) := by decide +kernel
theorem dX7_takesWord_50 : decode cX7_takesWord 50 = .ok (.aload_n 1, 1) := by decide +kernel
theorem dX7_takesWord_51 : decode cX7_takesWord 51 = .ok (.iload_n 3, 1) := by decide +kernel
theorem dX7_takesWord_52 : decode cX7_takesWord 52 = .ok (.invokevirtual 38, 3) := by decide +kernel
theorem dX7_takesWord_55 : decode cX7_takesWord 55 = .ok (.if_icmp .eq 5, 3) := by decide +kernel
theorem dX7_takesWord_58 : decode cX7_takesWord 58 = .ok (.iconst 0, 1) := by decide +kernel
theorem dX7_takesWord_59 : decode cX7_takesWord 59 = .ok (.ireturn, 1) := by decide +kernel
theorem dX7_takesWord_60 : decode cX7_takesWord 60 = .ok (.iinc 3 1, 3) := by decide +kernel
theorem dX7_takesWord_63 : decode cX7_takesWord 63 = .ok (.goto (-42), 3) := by decide +kernel
theorem dX7_takesWord_66 : decode cX7_takesWord 66 = .ok (.aload_n 0, 1) := by decide +kernel
theorem dX7_takesWord_67 : decode cX7_takesWord 67 = .ok (.iload_n 2, 1) := by decide +kernel
theorem dX7_takesWord_68 : decode cX7_takesWord 68 = .ok (.invokevirtual 25, 3) := by decide +kernel
theorem dX7_takesWord_71 : decode cX7_takesWord 71 = .ok (.iconst 1, 1) := by decide +kernel
theorem dX7_takesWord_72 : decode cX7_takesWord 72 = .ok (.ireturn, 1) := by decide +kernel
set_option maxRecDepth 20000 in
theorem glX7_needWord_0 : GoodIn wsX7_needWord (wsX7_needWord_r1) := goodIn_sub (fun _ h => List.mem_cons_of_mem _ (List.mem_append_left _ (List.mem_append_left _ (h)))) (by decide +kernel)
set_option maxRecDepth 20000 in
theorem glX7_needWord_1 : GoodIn wsX7_needWord (wsX7_needWord_r2) := goodIn_sub (fun _ h => List.mem_cons_of_mem _ (List.mem_append_left _ (List.mem_append_right _ (List.mem_append_left _ (h))))) (by decide +kernel)
set_option maxRecDepth 20000 in
theorem glX7_needWord_2 : GoodIn wsX7_needWord (wsX7_needWord_r3) := goodIn_sub (fun _ h => List.mem_cons_of_mem _ (List.mem_append_left _ (List.mem_append_right _ (List.mem_append_right _ (h))))) (by decide +kernel)
set_option maxRecDepth 20000 in
theorem glX7_needWord_3 : GoodIn wsX7_needWord (wsX70) := goodIn_sub (fun _ h => List.mem_cons_of_mem _ (List.mem_append_right _ (h))) ag_wsX70
set_option maxRecDepth 20000 in
theorem ggX7_needWord_X7_takesWord : GoodIn wsX7_needWord wsX7_takesWord := goodIn_c (glX7_needWord_0 _ (List.mem_of_getElem? (i := 5) rfl)) (goodIn_app (goodIn_app (goodIn_c (glX7_needWord_0 _ (List.mem_of_getElem? (i := 0) rfl)) (goodIn_c (glX7_needWord_0 _ (List.mem_of_getElem? (i := 6) rfl)) (goodIn_c (glX7_needWord_0 _ (List.mem_of_getElem? (i := 7) rfl)) (goodIn_c (glX7_needWord_0 _ (List.mem_of_getElem? (i := 8) rfl)) (goodIn_c (glX7_needWord_0 _ (List.mem_of_getElem? (i := 9) rfl)) (goodIn_c (glX7_needWord_0 _ (List.mem_of_getElem? (i := 10) rfl)) (goodIn_c (glX7_needWord_0 _ (List.mem_of_getElem? (i := 11) rfl)) (goodIn_c (glX7_needWord_0 _ (List.mem_of_getElem? (i := 12) rfl)) (goodIn_c (glX7_needWord_0 _ (List.mem_of_getElem? (i := 13) rfl)) (goodIn_c (glX7_needWord_0 _ (List.mem_of_getElem? (i := 14) rfl)) (goodIn_c (glX7_needWord_0 _ (List.mem_of_getElem? (i := 15) rfl)) (goodIn_c (glX7_needWord_0 _ (List.mem_of_getElem? (i := 16) rfl)) (goodIn_c (glX7_needWord_0 _ (List.mem_of_getElem? (i := 17) rfl)) (goodIn_c (glX7_needWord_0 _ (List.mem_of_getElem? (i := 18) rfl)) (goodIn_c (glX7_needWord_0 _ (List.mem_of_getElem? (i := 19) rfl)) (goodIn_c (glX7_needWord_0 _ (List.mem_of_getElem? (i := 20) rfl)) (goodIn_c (glX7_needWord_0 _ (List.mem_of_getElem? (i := 21) rfl)) (goodIn_c (glX7_needWord_0 _ (List.mem_of_getElem? (i := 22) rfl)) (goodIn_c (glX7_needWord_0 _ (List.mem_of_getElem? (i := 4) rfl)) (goodIn_c (glX7_needWord_0 _ (List.mem_of_getElem? (i := 23) rfl)) (goodIn_c (glX7_needWord_1 _ (List.mem_of_getElem? (i := 0) rfl)) (goodIn_c (glX7_needWord_1 _ (List.mem_of_getElem? (i := 1) rfl)) (goodIn_c (glX7_needWord_1 _ (List.mem_of_getElem? (i := 2) rfl)) (goodIn_c (glX7_needWord_1 _ (List.mem_of_getElem? (i := 3) rfl)) (goodIn_n))))))))))))))))))))))))) (goodIn_app (goodIn_c (glX7_needWord_1 _ (List.mem_of_getElem? (i := 4) rfl)) (goodIn_c (glX7_needWord_1 _ (List.mem_of_getElem? (i := 5) rfl)) (goodIn_c (glX7_needWord_1 _ (List.mem_of_getElem? (i := 6) rfl)) (goodIn_c (glX7_needWord_1 _ (List.mem_of_getElem? (i := 7) rfl)) (goodIn_c (glX7_needWord_1 _ (List.mem_of_getElem? (i := 8) rfl)) (goodIn_c (glX7_needWord_1 _ (List.mem_of_getElem? (i := 9) rfl)) (goodIn_c (glX7_needWord_1 _ (List.mem_of_getElem? (i := 10) rfl)) (goodIn_c (glX7_needWord_1 _ (List.mem_of_getElem? (i := 11) rfl)) (goodIn_c (glX7_needWord_1 _ (List.mem_of_getElem? (i := 12) rfl)) (goodIn_c (glX7_needWord_1 _ (List.mem_of_getElem? (i := 13) rfl)) (goodIn_c (glX7_needWord_1 _ (List.mem_of_getElem? (i := 14) rfl)) (goodIn_c (glX7_needWord_1 _ (List.mem_of_getElem? (i := 15) rfl)) (goodIn_c (glX7_needWord_1 _ (List.mem_of_getElem? (i := 16) rfl)) (goodIn_c (glX7_needWord_1 _ (List.mem_of_getElem? (i := 17) rfl)) (goodIn_c (glX7_needWord_1 _ (List.mem_of_getElem? (i := 18) rfl)) (goodIn_c (glX7_needWord_1 _ (List.mem_of_getElem? (i := 19) rfl)) (goodIn_c (glX7_needWord_1 _ (List.mem_of_getElem? (i := 20) rfl)) (goodIn_c (glX7_needWord_1 _ (List.mem_of_getElem? (i := 21) rfl)) (goodIn_c (glX7_needWord_1 _ (List.mem_of_getElem? (i := 22) rfl)) (goodIn_c (glX7_needWord_1 _ (List.mem_of_getElem? (i := 23) rfl)) (goodIn_c (glX7_needWord_2 _ (List.mem_of_getElem? (i := 0) rfl)) (goodIn_c (glX7_needWord_2 _ (List.mem_of_getElem? (i := 1) rfl)) (goodIn_c (glX7_needWord_2 _ (List.mem_of_getElem? (i := 2) rfl)) (goodIn_c (glX7_needWord_2 _ (List.mem_of_getElem? (i := 3) rfl)) (goodIn_n))))))))))))))))))))))))) (goodIn_c (glX7_needWord_2 _ (List.mem_of_getElem? (i := 4) rfl)) (goodIn_c (glX7_needWord_2 _ (List.mem_of_getElem? (i := 5) rfl)) (goodIn_c (glX7_needWord_2 _ (List.mem_of_getElem? (i := 6) rfl)) (goodIn_c (glX7_needWord_2 _ (List.mem_of_getElem? (i := 7) rfl)) (goodIn_c (glX7_needWord_2 _ (List.mem_of_getElem? (i := 8) rfl)) (goodIn_c (glX7_needWord_2 _ (List.mem_of_getElem? (i := 9) rfl)) (goodIn_c (glX7_needWord_2 _ (List.mem_of_getElem? (i := 10) rfl)) (goodIn_c (glX7_needWord_2 _ (List.mem_of_getElem? (i := 11) rfl)) (goodIn_c (glX7_needWord_2 _ (List.mem_of_getElem? (i := 12) rfl)) (goodIn_c (glX7_needWord_2 _ (List.mem_of_getElem? (i := 13) rfl)) (goodIn_c (glX7_needWord_2 _ (List.mem_of_getElem? (i := 14) rfl)) (goodIn_c (glX7_needWord_2 _ (List.mem_of_getElem? (i := 15) rfl)) (goodIn_c (glX7_needWord_2 _ (List.mem_of_getElem? (i := 16) rfl)) (goodIn_n)))))))))))))))) (glX7_needWord_3))
set_option maxRecDepth 20000 in
theorem gX7_needWord_X7_takesWord : GoodIn wsX7_needWord (wsV RX7 42 RX7 yX7_takesWord wsX7_takesWord) := goodIn_app (goodIn_of _ (by decide +kernel)) ggX7_needWord_X7_takesWord
set_option maxRecDepth 20000 in
theorem ggX7_needWord_X7_refuse : GoodIn wsX7_needWord wsX7_refuse := goodIn_c (glX7_needWord_2 _ (List.mem_of_getElem? (i := 20) rfl)) (goodIn_app (goodIn_c (glX7_needWord_2 _ (List.mem_of_getElem? (i := 21) rfl)) (goodIn_n)) (glX7_needWord_3))
set_option maxRecDepth 20000 in
theorem gX7_needWord_X7_refuse : GoodIn wsX7_needWord (wsV RX7 46 RX7 yX7_refuse wsX7_refuse) := goodIn_app (goodIn_of _ (by decide +kernel)) ggX7_needWord_X7_refuse
theorem dX7_needWord_0 : decode cX7_needWord 0 = .ok (.aload_n 0, 1) := by decide +kernel
theorem dX7_needWord_1 : decode cX7_needWord 1 = .ok (.aload_n 1, 1) := by decide +kernel
theorem dX7_needWord_2 : decode cX7_needWord 2 = .ok (.invokevirtual 42, 3) := by decide +kernel
theorem dX7_needWord_5 : decode cX7_needWord 5 = .ok (.ifCond .ne 11, 3) := by decide +kernel
theorem dX7_needWord_8 : decode cX7_needWord 8 = .ok (.aload_n 0, 1) := by decide +kernel
theorem dX7_needWord_9 : decode cX7_needWord 9 = .ok (.aload_n 0, 1) := by decide +kernel
theorem dX7_needWord_10 : decode cX7_needWord 10 = .ok (.getfield 22, 3) := by decide +kernel
theorem dX7_needWord_13 : decode cX7_needWord 13 = .ok (.invokevirtual 46, 3) := by decide +kernel
theorem dX7_needWord_16 : decode cX7_needWord 16 = .ok (.return_, 1) := by decide +kernel
set_option maxRecDepth 20000 in
theorem glX7_takesSign_0 : GoodIn wsX7_takesSign ([.fieldLink RX7 22 "PostHouse$Tape" "next" "I", .fieldLink RX7 19 "PostHouse$Tape" "length" "I", .fieldLink RX7 11 "PostHouse$Tape" "bytes" "[B", .methodLink RX7 25 yX7_skip, .instanceMethod yX7_skip, .selects RX7 yX7_skip yX7_skip, .initialized RX7, .code yX7_skip cX7_skip 2 none]) := goodIn_sub (fun _ h => List.mem_cons_of_mem _ (List.mem_append_left _ (h))) (by decide +kernel)
set_option maxRecDepth 20000 in
theorem glX7_takesSign_1 : GoodIn wsX7_takesSign (wsX70) := goodIn_sub (fun _ h => List.mem_cons_of_mem _ (List.mem_append_right _ (h))) ag_wsX70
set_option maxRecDepth 20000 in
theorem ggX7_takesSign_X7_skip : GoodIn wsX7_takesSign wsX7_skip := goodIn_c (glX7_takesSign_0 _ (List.mem_of_getElem? (i := 7) rfl)) (goodIn_app (goodIn_c (glX7_takesSign_0 _ (List.mem_of_getElem? (i := 0) rfl)) (goodIn_c (glX7_takesSign_0 _ (List.mem_of_getElem? (i := 1) rfl)) (goodIn_c (glX7_takesSign_0 _ (List.mem_of_getElem? (i := 2) rfl)) (goodIn_n)))) (glX7_takesSign_1))
set_option maxRecDepth 20000 in
theorem gX7_takesSign_X7_skip : GoodIn wsX7_takesSign (wsV RX7 25 RX7 yX7_skip wsX7_skip) := goodIn_app (goodIn_of _ (by decide +kernel)) ggX7_takesSign_X7_skip
theorem dX7_takesSign_0 : decode cX7_takesSign 0 = .ok (.aload_n 0, 1) := by decide +kernel
theorem dX7_takesSign_1 : decode cX7_takesSign 1 = .ok (.getfield 22, 3) := by decide +kernel
theorem dX7_takesSign_4 : decode cX7_takesSign 4 = .ok (.aload_n 0, 1) := by decide +kernel
theorem dX7_takesSign_5 : decode cX7_takesSign 5 = .ok (.getfield 19, 3) := by decide +kernel
theorem dX7_takesSign_8 : decode cX7_takesSign 8 = .ok (.if_icmp .ge 16, 3) := by decide +kernel
theorem dX7_takesSign_11 : decode cX7_takesSign 11 = .ok (.aload_n 0, 1) := by decide +kernel
theorem dX7_takesSign_12 : decode cX7_takesSign 12 = .ok (.getfield 11, 3) := by decide +kernel
theorem dX7_takesSign_15 : decode cX7_takesSign 15 = .ok (.aload_n 0, 1) := by decide +kernel
theorem dX7_takesSign_16 : decode cX7_takesSign 16 = .ok (.getfield 22, 3) := by decide +kernel
theorem dX7_takesSign_19 : decode cX7_takesSign 19 = .ok (.baload, 1) := by decide +kernel
theorem dX7_takesSign_20 : decode cX7_takesSign 20 = .ok (.iload_n 1, 1) := by decide +kernel
theorem dX7_takesSign_21 : decode cX7_takesSign 21 = .ok (.if_icmp .eq 5, 3) := by decide +kernel
theorem dX7_takesSign_24 : decode cX7_takesSign 24 = .ok (.iconst 0, 1) := by decide +kernel
theorem dX7_takesSign_25 : decode cX7_takesSign 25 = .ok (.ireturn, 1) := by decide +kernel
theorem dX7_takesSign_26 : decode cX7_takesSign 26 = .ok (.aload_n 0, 1) := by decide +kernel
theorem dX7_takesSign_27 : decode cX7_takesSign 27 = .ok (.iconst 1, 1) := by decide +kernel
theorem dX7_takesSign_28 : decode cX7_takesSign 28 = .ok (.invokevirtual 25, 3) := by decide +kernel
theorem dX7_takesSign_31 : decode cX7_takesSign 31 = .ok (.iconst 1, 1) := by decide +kernel
theorem dX7_takesSign_32 : decode cX7_takesSign 32 = .ok (.ireturn, 1) := by decide +kernel
set_option maxRecDepth 20000 in
theorem glX7_needEnd_0 : GoodIn wsX7_needEnd ([.fieldLink RX7 22 "PostHouse$Tape" "next" "I", .fieldLink RX7 19 "PostHouse$Tape" "length" "I", .methodLink RX7 46 yX7_refuse, .instanceMethod yX7_refuse, .selects RX7 yX7_refuse yX7_refuse, .initialized RX7, .code yX7_refuse cX7_refuse 2 none, .fieldLink RX7 15 "PostHouse$Tape" "wrong" "I"]) := goodIn_sub (fun _ h => List.mem_cons_of_mem _ (List.mem_append_left _ (h))) (by decide +kernel)
set_option maxRecDepth 20000 in
theorem glX7_needEnd_1 : GoodIn wsX7_needEnd (wsX70) := goodIn_sub (fun _ h => List.mem_cons_of_mem _ (List.mem_append_right _ (h))) ag_wsX70
set_option maxRecDepth 20000 in
theorem ggX7_needEnd_X7_refuse : GoodIn wsX7_needEnd wsX7_refuse := goodIn_c (glX7_needEnd_0 _ (List.mem_of_getElem? (i := 6) rfl)) (goodIn_app (goodIn_c (glX7_needEnd_0 _ (List.mem_of_getElem? (i := 7) rfl)) (goodIn_n)) (glX7_needEnd_1))
set_option maxRecDepth 20000 in
theorem gX7_needEnd_X7_refuse : GoodIn wsX7_needEnd (wsV RX7 46 RX7 yX7_refuse wsX7_refuse) := goodIn_app (goodIn_of _ (by decide +kernel)) ggX7_needEnd_X7_refuse
theorem dX7_needEnd_0 : decode cX7_needEnd 0 = .ok (.aload_n 0, 1) := by decide +kernel
theorem dX7_needEnd_1 : decode cX7_needEnd 1 = .ok (.getfield 22, 3) := by decide +kernel
theorem dX7_needEnd_4 : decode cX7_needEnd 4 = .ok (.aload_n 0, 1) := by decide +kernel
theorem dX7_needEnd_5 : decode cX7_needEnd 5 = .ok (.getfield 19, 3) := by decide +kernel
theorem dX7_needEnd_8 : decode cX7_needEnd 8 = .ok (.if_icmp .ge 11, 3) := by decide +kernel
theorem dX7_needEnd_11 : decode cX7_needEnd 11 = .ok (.aload_n 0, 1) := by decide +kernel
theorem dX7_needEnd_12 : decode cX7_needEnd 12 = .ok (.aload_n 0, 1) := by decide +kernel
theorem dX7_needEnd_13 : decode cX7_needEnd 13 = .ok (.getfield 22, 3) := by decide +kernel
theorem dX7_needEnd_16 : decode cX7_needEnd 16 = .ok (.invokevirtual 46, 3) := by decide +kernel
theorem dX7_needEnd_19 : decode cX7_needEnd 19 = .ok (.return_, 1) := by decide +kernel
set_option maxRecDepth 20000 in
theorem glX7_code_0 : GoodIn wsX7_code (wsX7_code_r1) := goodIn_sub (fun _ h => List.mem_cons_of_mem _ (List.mem_append_left _ (List.mem_append_left _ (h)))) (by decide +kernel)
set_option maxRecDepth 20000 in
theorem glX7_code_1 : GoodIn wsX7_code (wsX7_code_r2) := goodIn_sub (fun _ h => List.mem_cons_of_mem _ (List.mem_append_left _ (List.mem_append_right _ (h)))) (by decide +kernel)
set_option maxRecDepth 20000 in
theorem glX7_code_2 : GoodIn wsX7_code (wsX70) := goodIn_sub (fun _ h => List.mem_cons_of_mem _ (List.mem_append_right _ (h))) ag_wsX70
set_option maxRecDepth 20000 in
theorem ggX7_code_X7_digits : GoodIn wsX7_code wsX7_digits := goodIn_c (glX7_code_0 _ (List.mem_of_getElem? (i := 4) rfl)) (goodIn_app (goodIn_c (glX7_code_0 _ (List.mem_of_getElem? (i := 5) rfl)) (goodIn_c (glX7_code_0 _ (List.mem_of_getElem? (i := 6) rfl)) (goodIn_c (glX7_code_0 _ (List.mem_of_getElem? (i := 7) rfl)) (goodIn_c (glX7_code_0 _ (List.mem_of_getElem? (i := 8) rfl)) (goodIn_c (glX7_code_0 _ (List.mem_of_getElem? (i := 3) rfl)) (goodIn_c (glX7_code_0 _ (List.mem_of_getElem? (i := 9) rfl)) (goodIn_c (glX7_code_0 _ (List.mem_of_getElem? (i := 10) rfl)) (goodIn_c (glX7_code_0 _ (List.mem_of_getElem? (i := 11) rfl)) (goodIn_c (glX7_code_0 _ (List.mem_of_getElem? (i := 12) rfl)) (goodIn_c (glX7_code_0 _ (List.mem_of_getElem? (i := 13) rfl)) (goodIn_c (glX7_code_0 _ (List.mem_of_getElem? (i := 14) rfl)) (goodIn_c (glX7_code_0 _ (List.mem_of_getElem? (i := 15) rfl)) (goodIn_c (glX7_code_0 _ (List.mem_of_getElem? (i := 16) rfl)) (goodIn_c (glX7_code_0 _ (List.mem_of_getElem? (i := 17) rfl)) (goodIn_c (glX7_code_0 _ (List.mem_of_getElem? (i := 18) rfl)) (goodIn_c (glX7_code_0 _ (List.mem_of_getElem? (i := 19) rfl)) (goodIn_c (glX7_code_0 _ (List.mem_of_getElem? (i := 20) rfl)) (goodIn_c (glX7_code_0 _ (List.mem_of_getElem? (i := 21) rfl)) (goodIn_c (glX7_code_0 _ (List.mem_of_getElem? (i := 22) rfl)) (goodIn_c (glX7_code_0 _ (List.mem_of_getElem? (i := 23) rfl)) (goodIn_c (glX7_code_1 _ (List.mem_of_getElem? (i := 0) rfl)) (goodIn_n)))))))))))))))))))))) (glX7_code_2))
set_option maxRecDepth 20000 in
theorem gX7_code_X7_digits : GoodIn wsX7_code (wsV RX7 49 RX7 yX7_digits wsX7_digits) := goodIn_app (goodIn_of _ (by decide +kernel)) ggX7_code_X7_digits
theorem dX7_code_0 : decode cX7_code 0 = .ok (.aload_n 0, 1) := by decide +kernel
theorem dX7_code_1 : decode cX7_code 1 = .ok (.iconst 4, 1) := by decide +kernel
theorem dX7_code_2 : decode cX7_code 2 = .ok (.iconst 4, 1) := by decide +kernel
theorem dX7_code_3 : decode cX7_code 3 = .ok (.iconst 0, 1) := by decide +kernel
theorem dX7_code_4 : decode cX7_code 4 = .ok (.sipush 9999, 3) := by decide +kernel
theorem dX7_code_7 : decode cX7_code 7 = .ok (.invokevirtual 49, 3) := by decide +kernel
theorem dX7_code_10 : decode cX7_code 10 = .ok (.ireturn, 1) := by decide +kernel
set_option maxRecDepth 20000 in
theorem glX7_number_0 : GoodIn wsX7_number (wsX7_number_r1) := goodIn_sub (fun _ h => List.mem_cons_of_mem _ (List.mem_append_left _ (List.mem_append_left _ (h)))) (by decide +kernel)
set_option maxRecDepth 20000 in
theorem glX7_number_1 : GoodIn wsX7_number (wsX7_number_r2) := goodIn_sub (fun _ h => List.mem_cons_of_mem _ (List.mem_append_left _ (List.mem_append_right _ (h)))) (by decide +kernel)
set_option maxRecDepth 20000 in
theorem glX7_number_2 : GoodIn wsX7_number (wsX70) := goodIn_sub (fun _ h => List.mem_cons_of_mem _ (List.mem_append_right _ (h))) ag_wsX70
set_option maxRecDepth 20000 in
theorem ggX7_number_X7_digits : GoodIn wsX7_number wsX7_digits := goodIn_c (glX7_number_0 _ (List.mem_of_getElem? (i := 4) rfl)) (goodIn_app (goodIn_c (glX7_number_0 _ (List.mem_of_getElem? (i := 5) rfl)) (goodIn_c (glX7_number_0 _ (List.mem_of_getElem? (i := 6) rfl)) (goodIn_c (glX7_number_0 _ (List.mem_of_getElem? (i := 7) rfl)) (goodIn_c (glX7_number_0 _ (List.mem_of_getElem? (i := 8) rfl)) (goodIn_c (glX7_number_0 _ (List.mem_of_getElem? (i := 3) rfl)) (goodIn_c (glX7_number_0 _ (List.mem_of_getElem? (i := 9) rfl)) (goodIn_c (glX7_number_0 _ (List.mem_of_getElem? (i := 10) rfl)) (goodIn_c (glX7_number_0 _ (List.mem_of_getElem? (i := 11) rfl)) (goodIn_c (glX7_number_0 _ (List.mem_of_getElem? (i := 12) rfl)) (goodIn_c (glX7_number_0 _ (List.mem_of_getElem? (i := 13) rfl)) (goodIn_c (glX7_number_0 _ (List.mem_of_getElem? (i := 14) rfl)) (goodIn_c (glX7_number_0 _ (List.mem_of_getElem? (i := 15) rfl)) (goodIn_c (glX7_number_0 _ (List.mem_of_getElem? (i := 16) rfl)) (goodIn_c (glX7_number_0 _ (List.mem_of_getElem? (i := 17) rfl)) (goodIn_c (glX7_number_0 _ (List.mem_of_getElem? (i := 18) rfl)) (goodIn_c (glX7_number_0 _ (List.mem_of_getElem? (i := 19) rfl)) (goodIn_c (glX7_number_0 _ (List.mem_of_getElem? (i := 20) rfl)) (goodIn_c (glX7_number_0 _ (List.mem_of_getElem? (i := 21) rfl)) (goodIn_c (glX7_number_0 _ (List.mem_of_getElem? (i := 22) rfl)) (goodIn_c (glX7_number_0 _ (List.mem_of_getElem? (i := 23) rfl)) (goodIn_c (glX7_number_1 _ (List.mem_of_getElem? (i := 0) rfl)) (goodIn_n)))))))))))))))))))))) (glX7_number_2))
set_option maxRecDepth 20000 in
theorem gX7_number_X7_digits : GoodIn wsX7_number (wsV RX7 49 RX7 yX7_digits wsX7_digits) := goodIn_app (goodIn_of _ (by decide +kernel)) ggX7_number_X7_digits
theorem dX7_number_0 : decode cX7_number 0 = .ok (.aload_n 0, 1) := by decide +kernel
theorem dX7_number_1 : decode cX7_number 1 = .ok (.iconst 1, 1) := by decide +kernel
theorem dX7_number_2 : decode cX7_number 2 = .ok (.bipush 6, 2) := by decide +kernel
theorem dX7_number_4 : decode cX7_number 4 = .ok (.iload_n 1, 1) := by decide +kernel
theorem dX7_number_5 : decode cX7_number 5 = .ok (.iload_n 2, 1) := by decide +kernel
theorem dX7_number_6 : decode cX7_number 6 = .ok (.invokevirtual 49, 3) := by decide +kernel
theorem dX7_number_9 : decode cX7_number 9 = .ok (.ireturn, 1) := by decide +kernel
set_option maxRecDepth 20000 in
theorem glX7_digits_0 : GoodIn wsX7_digits ([.fieldLink RX7 22 "PostHouse$Tape" "next" "I", .methodLink RX7 34 yX7_run, .instanceMethod yX7_run, .selects RX7 yX7_run yX7_run, .initialized RX7, .code yX7_run cX7_run 4 (some .int), .fieldLink RX7 19 "PostHouse$Tape" "length" "I", .fieldLink RX7 11 "PostHouse$Tape" "bytes" "[B", .methodLink RX7 53 yX7_value, .instanceMethod yX7_value, .selects RX7 yX7_value yX7_value, .code yX7_value cX7_value 4 (some .int), .methodLink RX7 46 yX7_refuse, .instanceMethod yX7_refuse, .selects RX7 yX7_refuse yX7_refuse, .code yX7_refuse cX7_refuse 2 none, .fieldLink RX7 15 "PostHouse$Tape" "wrong" "I", .methodLink RX7 25 yX7_skip, .instanceMethod yX7_skip, .selects RX7 yX7_skip yX7_skip, .code yX7_skip cX7_skip 2 none]) := goodIn_sub (fun _ h => List.mem_cons_of_mem _ (List.mem_append_left _ (h))) (by decide +kernel)
set_option maxRecDepth 20000 in
theorem glX7_digits_1 : GoodIn wsX7_digits (wsX70) := goodIn_sub (fun _ h => List.mem_cons_of_mem _ (List.mem_append_right _ (h))) ag_wsX70
set_option maxRecDepth 20000 in
theorem ggX7_digits_X7_run : GoodIn wsX7_digits wsX7_run := goodIn_c (glX7_digits_0 _ (List.mem_of_getElem? (i := 5) rfl)) (goodIn_app (goodIn_c (glX7_digits_0 _ (List.mem_of_getElem? (i := 0) rfl)) (goodIn_c (glX7_digits_0 _ (List.mem_of_getElem? (i := 6) rfl)) (goodIn_c (glX7_digits_0 _ (List.mem_of_getElem? (i := 7) rfl)) (goodIn_n)))) (glX7_digits_1))
set_option maxRecDepth 20000 in
theorem gX7_digits_X7_run : GoodIn wsX7_digits (wsV RX7 34 RX7 yX7_run wsX7_run) := goodIn_app (goodIn_of _ (by decide +kernel)) ggX7_digits_X7_run
set_option maxRecDepth 20000 in
theorem ggX7_digits_X7_value : GoodIn wsX7_digits wsX7_value := goodIn_c (glX7_digits_0 _ (List.mem_of_getElem? (i := 11) rfl)) (goodIn_app (goodIn_c (glX7_digits_0 _ (List.mem_of_getElem? (i := 0) rfl)) (goodIn_c (glX7_digits_0 _ (List.mem_of_getElem? (i := 6) rfl)) (goodIn_c (glX7_digits_0 _ (List.mem_of_getElem? (i := 7) rfl)) (goodIn_n)))) (glX7_digits_1))
set_option maxRecDepth 20000 in
theorem gX7_digits_X7_value : GoodIn wsX7_digits (wsV RX7 53 RX7 yX7_value wsX7_value) := goodIn_app (goodIn_of _ (by decide +kernel)) ggX7_digits_X7_value
set_option maxRecDepth 20000 in
theorem ggX7_digits_X7_refuse : GoodIn wsX7_digits wsX7_refuse := goodIn_c (glX7_digits_0 _ (List.mem_of_getElem? (i := 15) rfl)) (goodIn_app (goodIn_c (glX7_digits_0 _ (List.mem_of_getElem? (i := 16) rfl)) (goodIn_n)) (glX7_digits_1))
set_option maxRecDepth 20000 in
theorem gX7_digits_X7_refuse : GoodIn wsX7_digits (wsV RX7 46 RX7 yX7_refuse wsX7_refuse) := goodIn_app (goodIn_of _ (by decide +kernel)) ggX7_digits_X7_refuse
set_option maxRecDepth 20000 in
theorem ggX7_digits_X7_skip : GoodIn wsX7_digits wsX7_skip := goodIn_c (glX7_digits_0 _ (List.mem_of_getElem? (i := 20) rfl)) (goodIn_app (goodIn_c (glX7_digits_0 _ (List.mem_of_getElem? (i := 0) rfl)) (goodIn_c (glX7_digits_0 _ (List.mem_of_getElem? (i := 6) rfl)) (goodIn_c (glX7_digits_0 _ (List.mem_of_getElem? (i := 7) rfl)) (goodIn_n)))) (glX7_digits_1))
set_option maxRecDepth 20000 in
theorem gX7_digits_X7_skip : GoodIn wsX7_digits (wsV RX7 25 RX7 yX7_skip wsX7_skip) := goodIn_app (goodIn_of _ (by decide +kernel)) ggX7_digits_X7_skip
theorem dX7_digits_0 : decode cX7_digits 0 = .ok (.aload_n 0, 1) := by decide +kernel
theorem dX7_digits_1 : decode cX7_digits 1 = .ok (.bipush 48, 2) := by decide +kernel
theorem dX7_digits_3 : decode cX7_digits 3 = .ok (.bipush 57, 2) := by decide +kernel
theorem dX7_digits_5 : decode cX7_digits 5 = .ok (.invokevirtual 34, 3) := by decide +kernel
theorem dX7_digits_8 : decode cX7_digits 8 = .ok (.istore 5, 2) := by decide +kernel
theorem dX7_digits_10 : decode cX7_digits 10 = .ok (.iload 5, 2) := by decide +kernel
theorem dX7_digits_12 : decode cX7_digits 12 = .ok (.iload_n 1, 1) := by decide +kernel
theorem dX7_digits_13 : decode cX7_digits 13 = .ok (.if_icmp .lt 9, 3) := by decide +kernel
theorem dX7_digits_16 : decode cX7_digits 16 = .ok (.iload 5, 2) := by decide +kernel
theorem dX7_digits_18 : decode cX7_digits 18 = .ok (.iload_n 2, 1) := by decide +kernel
theorem dX7_digits_19 : decode cX7_digits 19 = .ok (.if_icmp .le 7, 3) := by decide +kernel
theorem dX7_digits_22 : decode cX7_digits 22 = .ok (.iconst (-1), 1) := by decide +kernel
theorem dX7_digits_23 : decode cX7_digits 23 = .ok (.goto 9, 3) := by decide +kernel
theorem dX7_digits_26 : decode cX7_digits 26 = .ok (.aload_n 0, 1) := by decide +kernel
theorem dX7_digits_27 : decode cX7_digits 27 = .ok (.iload 5, 2) := by decide +kernel
theorem dX7_digits_29 : decode cX7_digits 29 = .ok (.invokevirtual 53, 3) := by decide +kernel
theorem dX7_digits_32 : decode cX7_digits 32 = .ok (.istore 6, 2) := by decide +kernel
theorem dX7_digits_34 : decode cX7_digits 34 = .ok (.iload 6, 2) := by decide +kernel
theorem dX7_digits_36 : decode cX7_digits 36 = .ok (.iload_n 3, 1) := by decide +kernel
theorem dX7_digits_37 : decode cX7_digits 37 = .ok (.if_icmp .lt 10, 3) := by decide +kernel
theorem dX7_digits_40 : decode cX7_digits 40 = .ok (.iload 6, 2) := by decide +kernel
theorem dX7_digits_42 : decode cX7_digits 42 = .ok (.iload 4, 2) := by decide +kernel
theorem dX7_digits_44 : decode cX7_digits 44 = .ok (.if_icmp .le 13, 3) := by decide +kernel
theorem dX7_digits_47 : decode cX7_digits 47 = .ok (.aload_n 0, 1) := by decide +kernel
theorem dX7_digits_48 : decode cX7_digits 48 = .ok (.aload_n 0, 1) := by decide +kernel
theorem dX7_digits_49 : decode cX7_digits 49 = .ok (.getfield 22, 3) := by decide +kernel
theorem dX7_digits_52 : decode cX7_digits 52 = .ok (.invokevirtual 46, 3) := by decide +kernel
theorem dX7_digits_55 : decode cX7_digits 55 = .ok (.iconst (-1), 1) := by decide +kernel
theorem dX7_digits_56 : decode cX7_digits 56 = .ok (.ireturn, 1) := by decide +kernel
theorem dX7_digits_57 : decode cX7_digits 57 = .ok (.aload_n 0, 1) := by decide +kernel
theorem dX7_digits_58 : decode cX7_digits 58 = .ok (.iload 5, 2) := by decide +kernel
theorem dX7_digits_60 : decode cX7_digits 60 = .ok (.invokevirtual 25, 3) := by decide +kernel
theorem dX7_digits_63 : decode cX7_digits 63 = .ok (.iload 6, 2) := by decide +kernel
theorem dX7_digits_65 : decode cX7_digits 65 = .ok (.ireturn, 1) := by decide +kernel
theorem dX7_value_0 : decode cX7_value 0 = .ok (.iconst 0, 1) := by decide +kernel
theorem dX7_value_1 : decode cX7_value 1 = .ok (.istore_n 2, 1) := by decide +kernel
theorem dX7_value_2 : decode cX7_value 2 = .ok (.aload_n 0, 1) := by decide +kernel
theorem dX7_value_3 : decode cX7_value 3 = .ok (.getfield 22, 3) := by decide +kernel
theorem dX7_value_6 : decode cX7_value 6 = .ok (.istore_n 3, 1) := by decide +kernel
theorem dX7_value_7 : decode cX7_value 7 = .ok (.iload_n 3, 1) := by decide +kernel
theorem dX7_value_8 : decode cX7_value 8 = .ok (.aload_n 0, 1) := by decide +kernel
theorem dX7_value_9 : decode cX7_value 9 = .ok (.getfield 22, 3) := by decide +kernel
theorem dX7_value_12 : decode cX7_value 12 = .ok (.iload_n 1, 1) := by decide +kernel
theorem dX7_value_13 : decode cX7_value 13 = .ok (.iadd, 1) := by decide +kernel
theorem dX7_value_14 : decode cX7_value 14 = .ok (.if_icmp .ge 32, 3) := by decide +kernel
theorem dX7_value_17 : decode cX7_value 17 = .ok (.iload_n 3, 1) := by decide +kernel
theorem dX7_value_18 : decode cX7_value 18 = .ok (.aload_n 0, 1) := by decide +kernel
theorem dX7_value_19 : decode cX7_value 19 = .ok (.getfield 19, 3) := by decide +kernel
theorem dX7_value_22 : decode cX7_value 22 = .ok (.if_icmp .ge 24, 3) := by decide +kernel
theorem dX7_value_25 : decode cX7_value 25 = .ok (.iload_n 2, 1) := by decide +kernel
theorem dX7_value_26 : decode cX7_value 26 = .ok (.bipush 10, 2) := by decide +kernel
theorem dX7_value_28 : decode cX7_value 28 = .ok (.imul, 1) := by decide +kernel
theorem dX7_value_29 : decode cX7_value 29 = .ok (.aload_n 0, 1) := by decide +kernel
theorem dX7_value_30 : decode cX7_value 30 = .ok (.getfield 11, 3) := by decide +kernel
theorem dX7_value_33 : decode cX7_value 33 = .ok (.iload_n 3, 1) := by decide +kernel
theorem dX7_value_34 : decode cX7_value 34 = .ok (.baload, 1) := by decide +kernel
theorem dX7_value_35 : decode cX7_value 35 = .ok (.iadd, 1) := by decide +kernel
theorem dX7_value_36 : decode cX7_value 36 = .ok (.bipush 48, 2) := by decide +kernel
theorem dX7_value_38 : decode cX7_value 38 = .ok (.isub, 1) := by decide +kernel
theorem dX7_value_39 : decode cX7_value 39 = .ok (.istore_n 2, 1) := by decide +kernel
theorem dX7_value_40 : decode cX7_value 40 = .ok (.iinc 3 1, 3) := by decide +kernel
theorem dX7_value_43 : decode cX7_value 43 = .ok (.goto (-36), 3) := by decide +kernel
theorem dX7_value_46 : decode cX7_value 46 = .ok (.iload_n 2, 1) := by decide +kernel
theorem dX7_value_47 : decode cX7_value 47 = .ok (.ireturn, 1) := by decide +kernel
theorem dX7_run_0 : decode cX7_run 0 = .ok (.aload_n 0, 1) := by decide +kernel
theorem dX7_run_1 : decode cX7_run 1 = .ok (.getfield 22, 3) := by decide +kernel
theorem dX7_run_4 : decode cX7_run 4 = .ok (.istore_n 3, 1) := by decide +kernel
theorem dX7_run_5 : decode cX7_run 5 = .ok (.iload_n 3, 1) := by decide +kernel
theorem dX7_run_6 : decode cX7_run 6 = .ok (.aload_n 0, 1) := by decide +kernel
theorem dX7_run_7 : decode cX7_run 7 = .ok (.getfield 19, 3) := by decide +kernel
theorem dX7_run_10 : decode cX7_run 10 = .ok (.if_icmp .ge 29, 3) := by decide +kernel
theorem dX7_run_13 : decode cX7_run 13 = .ok (.aload_n 0, 1) := by decide +kernel
theorem dX7_run_14 : decode cX7_run 14 = .ok (.getfield 11, 3) := by decide +kernel
theorem dX7_run_17 : decode cX7_run 17 = .ok (.iload_n 3, 1) := by decide +kernel
theorem dX7_run_18 : decode cX7_run 18 = .ok (.baload, 1) := by decide +kernel
theorem dX7_run_19 : decode cX7_run 19 = .ok (.iload_n 1, 1) := by decide +kernel
theorem dX7_run_20 : decode cX7_run 20 = .ok (.if_icmp .lt 19, 3) := by decide +kernel
theorem dX7_run_23 : decode cX7_run 23 = .ok (.aload_n 0, 1) := by decide +kernel
theorem dX7_run_24 : decode cX7_run 24 = .ok (.getfield 11, 3) := by decide +kernel
theorem dX7_run_27 : decode cX7_run 27 = .ok (.iload_n 3, 1) := by decide +kernel
theorem dX7_run_28 : decode cX7_run 28 = .ok (.baload, 1) := by decide +kernel
theorem dX7_run_29 : decode cX7_run 29 = .ok (.iload_n 2, 1) := by decide +kernel
theorem dX7_run_30 : decode cX7_run 30 = .ok (.if_icmp .gt 9, 3) := by decide +kernel
theorem dX7_run_33 : decode cX7_run 33 = .ok (.iinc 3 1, 3) := by decide +kernel
theorem dX7_run_36 : decode cX7_run 36 = .ok (.goto (-31), 3) := by decide +kernel
theorem dX7_run_39 : decode cX7_run 39 = .ok (.iload_n 3, 1) := by decide +kernel
theorem dX7_run_40 : decode cX7_run 40 = .ok (.aload_n 0, 1) := by decide +kernel
theorem dX7_run_41 : decode cX7_run 41 = .ok (.getfield 22, 3) := by decide +kernel
theorem dX7_run_44 : decode cX7_run 44 = .ok (.isub, 1) := by decide +kernel
theorem dX7_run_45 : decode cX7_run 45 = .ok (.ireturn, 1) := by decide +kernel
theorem dX7_skip_0 : decode cX7_skip 0 = .ok (.aload_n 0, 1) := by decide +kernel
theorem dX7_skip_1 : decode cX7_skip 1 = .ok (.dup, 1) := by decide +kernel
theorem dX7_skip_2 : decode cX7_skip 2 = .ok (.getfield 22, 3) := by decide +kernel
theorem dX7_skip_5 : decode cX7_skip 5 = .ok (.iload_n 1, 1) := by decide +kernel
theorem dX7_skip_6 : decode cX7_skip 6 = .ok (.iadd, 1) := by decide +kernel
theorem dX7_skip_7 : decode cX7_skip 7 = .ok (.putfield 22, 3) := by decide +kernel
theorem dX7_skip_10 : decode cX7_skip 10 = .ok (.aload_n 0, 1) := by decide +kernel
theorem dX7_skip_11 : decode cX7_skip 11 = .ok (.getfield 22, 3) := by decide +kernel
theorem dX7_skip_14 : decode cX7_skip 14 = .ok (.aload_n 0, 1) := by decide +kernel
theorem dX7_skip_15 : decode cX7_skip 15 = .ok (.getfield 19, 3) := by decide +kernel
theorem dX7_skip_18 : decode cX7_skip 18 = .ok (.if_icmp .ge 30, 3) := by decide +kernel
theorem dX7_skip_21 : decode cX7_skip 21 = .ok (.aload_n 0, 1) := by decide +kernel
theorem dX7_skip_22 : decode cX7_skip 22 = .ok (.getfield 11, 3) := by decide +kernel
theorem dX7_skip_25 : decode cX7_skip 25 = .ok (.aload_n 0, 1) := by decide +kernel
theorem dX7_skip_26 : decode cX7_skip 26 = .ok (.getfield 22, 3) := by decide +kernel
theorem dX7_skip_29 : decode cX7_skip 29 = .ok (.baload, 1) := by decide +kernel
theorem dX7_skip_30 : decode cX7_skip 30 = .ok (.bipush 32, 2) := by decide +kernel
theorem dX7_skip_32 : decode cX7_skip 32 = .ok (.if_icmp .ne 16, 3) := by decide +kernel
theorem dX7_skip_35 : decode cX7_skip 35 = .ok (.aload_n 0, 1) := by decide +kernel
theorem dX7_skip_36 : decode cX7_skip 36 = .ok (.dup, 1) := by decide +kernel
theorem dX7_skip_37 : decode cX7_skip 37 = .ok (.getfield 22, 3) := by decide +kernel
theorem dX7_skip_40 : decode cX7_skip 40 = .ok (.iconst 1, 1) := by decide +kernel
theorem dX7_skip_41 : decode cX7_skip 41 = .ok (.iadd, 1) := by decide +kernel
theorem dX7_skip_42 : decode cX7_skip 42 = .ok (.putfield 22, 3) := by decide +kernel
theorem dX7_skip_45 : decode cX7_skip 45 = .ok (.goto (-35), 3) := by decide +kernel
theorem dX7_skip_48 : decode cX7_skip 48 = .ok (.return_, 1) := by decide +kernel
theorem dX8_init_0 : decode cX8_init 0 = .ok (.aload_n 0, 1) := by decide +kernel
theorem dX8_init_1 : decode cX8_init 1 = .ok (.invokespecial 3, 3) := by decide +kernel
theorem dX8_init_4 : decode cX8_init 4 = .ok (.aload_n 0, 1) := by decide +kernel
theorem dX8_init_5 : decode cX8_init 5 = .ok (.iconst 4, 1) := by decide +kernel
theorem dX8_init_6 : decode cX8_init 6 = .ok (.newarray .int, 2) := by decide +kernel
theorem dX8_init_8 : decode cX8_init 8 = .ok (.putfield 9, 3) := by decide +kernel
theorem dX8_init_11 : decode cX8_init 11 = .ok (.aload_n 0, 1) := by decide +kernel
theorem dX8_init_12 : decode cX8_init 12 = .ok (.iconst 4, 1) := by decide +kernel
theorem dX8_init_13 : decode cX8_init 13 = .ok (.newarray .int, 2) := by decide +kernel
theorem dX8_init_15 : decode cX8_init 15 = .ok (.putfield 15, 3) := by decide +kernel
theorem dX8_init_18 : decode cX8_init 18 = .ok (.aload_n 0, 1) := by decide +kernel
theorem dX8_init_19 : decode cX8_init 19 = .ok (.iconst 4, 1) := by decide +kernel
theorem dX8_init_20 : decode cX8_init 20 = .ok (.newarray .int, 2) := by decide +kernel
theorem dX8_init_22 : decode cX8_init 22 = .ok (.putfield 18, 3) := by decide +kernel
theorem dX8_init_25 : decode cX8_init 25 = .ok (.aload_n 0, 1) := by decide +kernel
theorem dX8_init_26 : decode cX8_init 26 = .ok (.iload_n 1, 1) := by decide +kernel
theorem dX8_init_27 : decode cX8_init 27 = .ok (.putfield 21, 3) := by decide +kernel
theorem dX8_init_30 : decode cX8_init 30 = .ok (.aload_n 0, 1) := by decide +kernel
theorem dX8_init_31 : decode cX8_init 31 = .ok (.iload_n 2, 1) := by decide +kernel
theorem dX8_init_32 : decode cX8_init 32 = .ok (.putfield 25, 3) := by decide +kernel
theorem dX8_init_35 : decode cX8_init 35 = .ok (.aload_n 0, 1) := by decide +kernel
theorem dX8_init_36 : decode cX8_init 36 = .ok (.iload_n 3, 1) := by decide +kernel
theorem dX8_init_37 : decode cX8_init 37 = .ok (.putfield 28, 3) := by decide +kernel
theorem dX8_init_40 : decode cX8_init 40 = .ok (.aload_n 0, 1) := by decide +kernel
theorem dX8_init_41 : decode cX8_init 41 = .ok (.iload 4, 2) := by decide +kernel
theorem dX8_init_43 : decode cX8_init 43 = .ok (.putfield 31, 3) := by decide +kernel
theorem dX8_init_46 : decode cX8_init 46 = .ok (.aload_n 0, 1) := by decide +kernel
theorem dX8_init_47 : decode cX8_init 47 = .ok (.iload 5, 2) := by decide +kernel
theorem dX8_init_49 : decode cX8_init 49 = .ok (.putfield 34, 3) := by decide +kernel
theorem dX8_init_52 : decode cX8_init 52 = .ok (.return_, 1) := by decide +kernel
theorem dX8_addPrice_0 : decode cX8_addPrice 0 = .ok (.aload_n 0, 1) := by decide +kernel
theorem dX8_addPrice_1 : decode cX8_addPrice 1 = .ok (.getfield 37, 3) := by decide +kernel
theorem dX8_addPrice_4 : decode cX8_addPrice 4 = .ok (.iconst 4, 1) := by decide +kernel
theorem dX8_addPrice_5 : decode cX8_addPrice 5 = .ok (.if_icmp .ge 43, 3) := by decide +kernel
theorem dX8_addPrice_8 : decode cX8_addPrice 8 = .ok (.aload_n 0, 1) := by decide +kernel
theorem dX8_addPrice_9 : decode cX8_addPrice 9 = .ok (.getfield 9, 3) := by decide +kernel
theorem dX8_addPrice_12 : decode cX8_addPrice 12 = .ok (.aload_n 0, 1) := by decide +kernel
theorem dX8_addPrice_13 : decode cX8_addPrice 13 = .ok (.getfield 37, 3) := by decide +kernel
theorem dX8_addPrice_16 : decode cX8_addPrice 16 = .ok (.iload_n 1, 1) := by decide +kernel
theorem dX8_addPrice_17 : decode cX8_addPrice 17 = .ok (.iastore, 1) := by decide +kernel
theorem dX8_addPrice_18 : decode cX8_addPrice 18 = .ok (.aload_n 0, 1) := by decide +kernel
theorem dX8_addPrice_19 : decode cX8_addPrice 19 = .ok (.getfield 15, 3) := by decide +kernel
theorem dX8_addPrice_22 : decode cX8_addPrice 22 = .ok (.aload_n 0, 1) := by decide +kernel
theorem dX8_addPrice_23 : decode cX8_addPrice 23 = .ok (.getfield 37, 3) := by decide +kernel
theorem dX8_addPrice_26 : decode cX8_addPrice 26 = .ok (.iload_n 2, 1) := by decide +kernel
theorem dX8_addPrice_27 : decode cX8_addPrice 27 = .ok (.iastore, 1) := by decide +kernel
theorem dX8_addPrice_28 : decode cX8_addPrice 28 = .ok (.aload_n 0, 1) := by decide +kernel
theorem dX8_addPrice_29 : decode cX8_addPrice 29 = .ok (.getfield 18, 3) := by decide +kernel
theorem dX8_addPrice_32 : decode cX8_addPrice 32 = .ok (.aload_n 0, 1) := by decide +kernel
theorem dX8_addPrice_33 : decode cX8_addPrice 33 = .ok (.getfield 37, 3) := by decide +kernel
theorem dX8_addPrice_36 : decode cX8_addPrice 36 = .ok (.iload_n 3, 1) := by decide +kernel
theorem dX8_addPrice_37 : decode cX8_addPrice 37 = .ok (.iastore, 1) := by decide +kernel
theorem dX8_addPrice_38 : decode cX8_addPrice 38 = .ok (.aload_n 0, 1) := by decide +kernel
theorem dX8_addPrice_39 : decode cX8_addPrice 39 = .ok (.dup, 1) := by decide +kernel
theorem dX8_addPrice_40 : decode cX8_addPrice 40 = .ok (.getfield 37, 3) := by decide +kernel
theorem dX8_addPrice_43 : decode cX8_addPrice 43 = .ok (.iconst 1, 1) := by decide +kernel
theorem dX8_addPrice_44 : decode cX8_addPrice 44 = .ok (.iadd, 1) := by decide +kernel
theorem dX8_addPrice_45 : decode cX8_addPrice 45 = .ok (.putfield 37, 3) := by decide +kernel
theorem dX8_addPrice_48 : decode cX8_addPrice 48 = .ok (.aload_n 0, 1) := by decide +kernel
theorem dX8_addPrice_49 : decode cX8_addPrice 49 = .ok (.getfield 37, 3) := by decide +kernel
theorem dX8_addPrice_52 : decode cX8_addPrice 52 = .ok (.ireturn, 1) := by decide +kernel
set_option maxRecDepth 20000 in
theorem glX8_moneyOn_0 : GoodIn wsX8_moneyOn ([.fieldLink RX8 37 "PostHouse$Thing" "prices" "I", .fieldLink RX8 15 "PostHouse$Thing" "froms" "[I", .fieldLink RX8 18 "PostHouse$Thing" "tos" "[I", .fieldLink RX8 9 "PostHouse$Thing" "moneys" "[I", .static yX11_within, .initialized RX11, .code yX11_within cX11_within 3 (some .boolean)]) := goodIn_sub (fun _ h => List.mem_cons_of_mem _ (List.mem_append_left _ (h))) (by decide +kernel)
set_option maxRecDepth 20000 in
theorem ggX8_moneyOn_X11_within : GoodIn wsX8_moneyOn wsX11_within := goodIn_c (glX8_moneyOn_0 _ (List.mem_of_getElem? (i := 6) rfl)) (goodIn_n)
set_option maxRecDepth 20000 in
theorem gX8_moneyOn_X11_within_n40 : GoodIn wsX8_moneyOn (wsX11_within) := ggX8_moneyOn_X11_within
theorem dX8_moneyOn_0 : decode cX8_moneyOn 0 = .ok (.aload_n 0, 1) := by decide +kernel
theorem dX8_moneyOn_1 : decode cX8_moneyOn 1 = .ok (.getfield 37, 3) := by decide +kernel
theorem dX8_moneyOn_4 : decode cX8_moneyOn 4 = .ok (.iconst 1, 1) := by decide +kernel
theorem dX8_moneyOn_5 : decode cX8_moneyOn 5 = .ok (.isub, 1) := by decide +kernel
theorem dX8_moneyOn_6 : decode cX8_moneyOn 6 = .ok (.istore_n 2, 1) := by decide +kernel
theorem dX8_moneyOn_7 : decode cX8_moneyOn 7 = .ok (.iload_n 2, 1) := by decide +kernel
theorem dX8_moneyOn_8 : decode cX8_moneyOn 8 = .ok (.ifCond .lt 35, 3) := by decide +kernel
theorem dX8_moneyOn_11 : decode cX8_moneyOn 11 = .ok (.iload_n 1, 1) := by decide +kernel
theorem dX8_moneyOn_12 : decode cX8_moneyOn 12 = .ok (.aload_n 0, 1) := by decide +kernel
theorem dX8_moneyOn_13 : decode cX8_moneyOn 13 = .ok (.getfield 15, 3) := by decide +kernel
theorem dX8_moneyOn_16 : decode cX8_moneyOn 16 = .ok (.iload_n 2, 1) := by decide +kernel
theorem dX8_moneyOn_17 : decode cX8_moneyOn 17 = .ok (.iaload, 1) := by decide +kernel
theorem dX8_moneyOn_18 : decode cX8_moneyOn 18 = .ok (.aload_n 0, 1) := by decide +kernel
theorem dX8_moneyOn_19 : decode cX8_moneyOn 19 = .ok (.getfield 18, 3) := by decide +kernel
theorem dX8_moneyOn_22 : decode cX8_moneyOn 22 = .ok (.iload_n 2, 1) := by decide +kernel
theorem dX8_moneyOn_23 : decode cX8_moneyOn 23 = .ok (.iaload, 1) := by decide +kernel
theorem dX8_moneyOn_24 : decode cX8_moneyOn 24 = .ok (.invokestatic 40, 3) := by decide +kernel
theorem dX8_moneyOn_27 : decode cX8_moneyOn 27 = .ok (.ifCond .eq 10, 3) := by decide +kernel
theorem dX8_moneyOn_30 : decode cX8_moneyOn 30 = .ok (.aload_n 0, 1) := by decide +kernel
theorem dX8_moneyOn_31 : decode cX8_moneyOn 31 = .ok (.getfield 9, 3) := by decide +kernel
theorem dX8_moneyOn_34 : decode cX8_moneyOn 34 = .ok (.iload_n 2, 1) := by decide +kernel
theorem dX8_moneyOn_35 : decode cX8_moneyOn 35 = .ok (.iaload, 1) := by decide +kernel
theorem dX8_moneyOn_36 : decode cX8_moneyOn 36 = .ok (.ireturn, 1) := by decide +kernel
theorem dX8_moneyOn_37 : decode cX8_moneyOn 37 = .ok (.iinc 2 (-1), 3) := by decide +kernel
theorem dX8_moneyOn_40 : decode cX8_moneyOn 40 = .ok (.goto (-33), 3) := by decide +kernel
theorem dX8_moneyOn_43 : decode cX8_moneyOn 43 = .ok (.iconst (-1), 1) := by decide +kernel
theorem dX8_moneyOn_44 : decode cX8_moneyOn 44 = .ok (.ireturn, 1) := by decide +kernel
theorem dX9_init_0 : decode cX9_init 0 = .ok (.aload_n 0, 1) := by decide +kernel
theorem dX9_init_1 : decode cX9_init 1 = .ok (.invokespecial 3, 3) := by decide +kernel
theorem dX9_init_4 : decode cX9_init 4 = .ok (.aload_n 0, 1) := by decide +kernel
theorem dX9_init_5 : decode cX9_init 5 = .ok (.bipush 10, 2) := by decide +kernel
theorem dX9_init_7 : decode cX9_init 7 = .ok (.anewarray 9, 3) := by decide +kernel
theorem dX9_init_10 : decode cX9_init 10 = .ok (.putfield 11, 3) := by decide +kernel
theorem dX9_init_13 : decode cX9_init 13 = .ok (.aload_n 0, 1) := by decide +kernel
theorem dX9_init_14 : decode cX9_init 14 = .ok (.bipush 21, 2) := by decide +kernel
theorem dX9_init_16 : decode cX9_init 16 = .ok (.newarray .boolean, 2) := by decide +kernel
theorem dX9_init_18 : decode cX9_init 18 = .ok (.putfield 17, 3) := by decide +kernel
theorem dX9_init_21 : decode cX9_init 21 = .ok (.aload_n 0, 1) := by decide +kernel
theorem dX9_init_22 : decode cX9_init 22 = .ok (.bipush 6, 2) := by decide +kernel
theorem dX9_init_24 : decode cX9_init 24 = .ok (.newarray .int, 2) := by decide +kernel
theorem dX9_init_26 : decode cX9_init 26 = .ok (.putfield 21, 3) := by decide +kernel
theorem dX9_init_29 : decode cX9_init 29 = .ok (.aload_n 0, 1) := by decide +kernel
theorem dX9_init_30 : decode cX9_init 30 = .ok (.bipush 6, 2) := by decide +kernel
theorem dX9_init_32 : decode cX9_init 32 = .ok (.newarray .int, 2) := by decide +kernel
theorem dX9_init_34 : decode cX9_init 34 = .ok (.putfield 25, 3) := by decide +kernel
theorem dX9_init_37 : decode cX9_init 37 = .ok (.aload_n 0, 1) := by decide +kernel
theorem dX9_init_38 : decode cX9_init 38 = .ok (.bipush 6, 2) := by decide +kernel
theorem dX9_init_40 : decode cX9_init 40 = .ok (.newarray .int, 2) := by decide +kernel
theorem dX9_init_42 : decode cX9_init 42 = .ok (.putfield 28, 3) := by decide +kernel
theorem dX9_init_45 : decode cX9_init 45 = .ok (.return_, 1) := by decide +kernel
theorem dX9_add_0 : decode cX9_add 0 = .ok (.iconst 0, 1) := by decide +kernel
theorem dX9_add_1 : decode cX9_add 1 = .ok (.istore_n 2, 1) := by decide +kernel
theorem dX9_add_2 : decode cX9_add 2 = .ok (.iload_n 2, 1) := by decide +kernel
theorem dX9_add_3 : decode cX9_add 3 = .ok (.aload_n 0, 1) := by decide +kernel
theorem dX9_add_4 : decode cX9_add 4 = .ok (.getfield 31, 3) := by decide +kernel
theorem dX9_add_7 : decode cX9_add 7 = .ok (.if_icmp .ge 21, 3) := by decide +kernel
theorem dX9_add_10 : decode cX9_add 10 = .ok (.aload_n 0, 1) := by decide +kernel
theorem dX9_add_11 : decode cX9_add 11 = .ok (.getfield 11, 3) := by decide +kernel
theorem dX9_add_14 : decode cX9_add 14 = .ok (.iload_n 2, 1) := by decide +kernel
theorem dX9_add_15 : decode cX9_add 15 = .ok (.aaload, 1) := by decide +kernel
theorem dX9_add_16 : decode cX9_add 16 = .ok (.aload_n 1, 1) := by decide +kernel
theorem dX9_add_17 : decode cX9_add 17 = .ok (.if_acmp .ne 5, 3) := by decide +kernel
theorem dX9_add_20 : decode cX9_add 20 = .ok (.iconst (-1), 1) := by decide +kernel
theorem dX9_add_21 : decode cX9_add 21 = .ok (.ireturn, 1) := by decide +kernel
theorem dX9_add_22 : decode cX9_add 22 = .ok (.iinc 2 1, 3) := by decide +kernel
theorem dX9_add_25 : decode cX9_add 25 = .ok (.goto (-23), 3) := by decide +kernel
theorem dX9_add_28 : decode cX9_add 28 = .ok (.aload_n 0, 1) := by decide +kernel
theorem dX9_add_29 : decode cX9_add 29 = .ok (.getfield 31, 3) := by decide +kernel
theorem dX9_add_32 : decode cX9_add 32 = .ok (.bipush 10, 2) := by decide +kernel
theorem dX9_add_34 : decode cX9_add 34 = .ok (.if_icmp .lt 5, 3) := by decide +kernel
theorem dX9_add_37 : decode cX9_add 37 = .ok (.iconst (-1), 1) := by decide +kernel
theorem dX9_add_38 : decode cX9_add 38 = .ok (.ireturn, 1) := by decide +kernel
theorem dX9_add_39 : decode cX9_add 39 = .ok (.aload_n 0, 1) := by decide +kernel
theorem dX9_add_40 : decode cX9_add 40 = .ok (.getfield 11, 3) := by decide +kernel
theorem dX9_add_43 : decode cX9_add 43 = .ok (.aload_n 0, 1) := by decide +kernel
theorem dX9_add_44 : decode cX9_add 44 = .ok (.getfield 31, 3) := by decide +kernel
theorem dX9_add_47 : decode cX9_add 47 = .ok (.aload_n 1, 1) := by decide +kernel
theorem dX9_add_48 : decode cX9_add 48 = .ok (.aastore, 1) := by decide +kernel
theorem dX9_add_49 : decode cX9_add 49 = .ok (.aload_n 0, 1) := by decide +kernel
theorem dX9_add_50 : decode cX9_add 50 = .ok (.dup, 1) := by decide +kernel
theorem dX9_add_51 : decode cX9_add 51 = .ok (.getfield 31, 3) := by decide +kernel
theorem dX9_add_54 : decode cX9_add 54 = .ok (.iconst 1, 1) := by decide +kernel
theorem dX9_add_55 : decode cX9_add 55 = .ok (.iadd, 1) := by decide +kernel
theorem dX9_add_56 : decode cX9_add 56 = .ok (.putfield 31, 3) := by decide +kernel
theorem dX9_add_59 : decode cX9_add 59 = .ok (.aload_n 0, 1) := by decide +kernel
theorem dX9_add_60 : decode cX9_add 60 = .ok (.getfield 31, 3) := by decide +kernel
theorem dX9_add_63 : decode cX9_add 63 = .ok (.ireturn, 1) := by decide +kernel
set_option maxRecDepth 20000 in
theorem glX9_leastSteps_0 : GoodIn wsX9_leastSteps (wsX9_leastSteps_r1) := goodIn_sub (fun _ h => List.mem_cons_of_mem _ (List.mem_append_left _ (List.mem_append_left _ (List.mem_append_left _ (h))))) (by decide +kernel)
set_option maxRecDepth 20000 in
theorem glX9_leastSteps_2 : GoodIn wsX9_leastSteps (wsX90) := goodIn_sub (fun _ h => List.mem_cons_of_mem _ (List.mem_append_left _ (List.mem_append_right _ (h)))) ag_wsX90
set_option maxRecDepth 20000 in
theorem glX9_leastSteps_3 : GoodIn wsX9_leastSteps (wsX80) := goodIn_sub (fun _ h => List.mem_cons_of_mem _ (List.mem_append_right _ (h))) ag_wsX80
set_option maxRecDepth 20000 in
theorem ggX9_leastSteps_X9_lastStreet : GoodIn wsX9_leastSteps wsX9_lastStreet := goodIn_c (glX9_leastSteps_0 _ (List.mem_of_getElem? (i := 7) rfl)) (goodIn_app (goodIn_app (goodIn_c (glX9_leastSteps_0 _ (List.mem_of_getElem? (i := 0) rfl)) (goodIn_c (glX9_leastSteps_0 _ (List.mem_of_getElem? (i := 8) rfl)) (goodIn_c (glX9_leastSteps_0 _ (List.mem_of_getElem? (i := 9) rfl)) (goodIn_c (glX9_leastSteps_0 _ (List.mem_of_getElem? (i := 10) rfl)) (goodIn_c (glX9_leastSteps_0 _ (List.mem_of_getElem? (i := 11) rfl)) (goodIn_c (glX9_leastSteps_0 _ (List.mem_of_getElem? (i := 12) rfl)) (goodIn_c (glX9_leastSteps_0 _ (List.mem_of_getElem? (i := 13) rfl)) (goodIn_n)))))))) (glX9_leastSteps_2)) (glX9_leastSteps_3))
set_option maxRecDepth 20000 in
theorem gX9_leastSteps_X9_lastStreet : GoodIn wsX9_leastSteps (wsV RX9 36 RX9 yX9_lastStreet wsX9_lastStreet) := goodIn_app (goodIn_of _ (by decide +kernel)) ggX9_leastSteps_X9_lastStreet
set_option maxRecDepth 20000 in
theorem glX9_leastSteps_1 : GoodIn wsX9_leastSteps (wsX9_leastSteps_r2) := goodIn_sub (fun _ h => List.mem_cons_of_mem _ (List.mem_append_left _ (List.mem_append_left _ (List.mem_append_right _ (h))))) (by decide +kernel)
set_option maxRecDepth 20000 in
theorem ggX9_leastSteps_X9_measure : GoodIn wsX9_leastSteps wsX9_measure := goodIn_c (glX9_leastSteps_0 _ (List.mem_of_getElem? (i := 17) rfl)) (goodIn_app (goodIn_app (goodIn_c (glX9_leastSteps_0 _ (List.mem_of_getElem? (i := 18) rfl)) (goodIn_c (glX9_leastSteps_0 _ (List.mem_of_getElem? (i := 0) rfl)) (goodIn_c (glX9_leastSteps_0 _ (List.mem_of_getElem? (i := 8) rfl)) (goodIn_c (glX9_leastSteps_0 _ (List.mem_of_getElem? (i := 9) rfl)) (goodIn_c (glX9_leastSteps_0 _ (List.mem_of_getElem? (i := 19) rfl)) (goodIn_c (glX9_leastSteps_0 _ (List.mem_of_getElem? (i := 10) rfl)) (goodIn_c (glX9_leastSteps_0 _ (List.mem_of_getElem? (i := 11) rfl)) (goodIn_c (glX9_leastSteps_0 _ (List.mem_of_getElem? (i := 12) rfl)) (goodIn_c (glX9_leastSteps_0 _ (List.mem_of_getElem? (i := 13) rfl)) (goodIn_c (glX9_leastSteps_0 _ (List.mem_of_getElem? (i := 20) rfl)) (goodIn_c (glX9_leastSteps_0 _ (List.mem_of_getElem? (i := 21) rfl)) (goodIn_c (glX9_leastSteps_0 _ (List.mem_of_getElem? (i := 22) rfl)) (goodIn_c (glX9_leastSteps_0 _ (List.mem_of_getElem? (i := 23) rfl)) (goodIn_c (glX9_leastSteps_0 _ (List.mem_of_getElem? (i := 2) rfl)) (goodIn_c (glX9_leastSteps_1 _ (List.mem_of_getElem? (i := 0) rfl)) (goodIn_c (glX9_leastSteps_1 _ (List.mem_of_getElem? (i := 1) rfl)) (goodIn_c (glX9_leastSteps_1 _ (List.mem_of_getElem? (i := 2) rfl)) (goodIn_n)))))))))))))))))) (glX9_leastSteps_2)) (glX9_leastSteps_3))
set_option maxRecDepth 20000 in
theorem gX9_leastSteps_X9_measure : GoodIn wsX9_leastSteps (wsV RX9 40 RX9 yX9_measure wsX9_measure) := goodIn_app (goodIn_of _ (by decide +kernel)) ggX9_leastSteps_X9_measure
set_option maxRecDepth 20000 in
theorem ggX9_leastSteps_X9_goToNextStreet : GoodIn wsX9_leastSteps wsX9_goToNextStreet := goodIn_c (glX9_leastSteps_1 _ (List.mem_of_getElem? (i := 6) rfl)) (goodIn_app (goodIn_c (glX9_leastSteps_1 _ (List.mem_of_getElem? (i := 7) rfl)) (goodIn_c (glX9_leastSteps_1 _ (List.mem_of_getElem? (i := 8) rfl)) (goodIn_c (glX9_leastSteps_1 _ (List.mem_of_getElem? (i := 9) rfl)) (goodIn_c (glX9_leastSteps_0 _ (List.mem_of_getElem? (i := 2) rfl)) (goodIn_c (glX9_leastSteps_0 _ (List.mem_of_getElem? (i := 1) rfl)) (goodIn_c (glX9_leastSteps_1 _ (List.mem_of_getElem? (i := 10) rfl)) (goodIn_c (glX9_leastSteps_1 _ (List.mem_of_getElem? (i := 11) rfl)) (goodIn_c (glX9_leastSteps_1 _ (List.mem_of_getElem? (i := 12) rfl)) (goodIn_c (glX9_leastSteps_1 _ (List.mem_of_getElem? (i := 13) rfl)) (goodIn_c (glX9_leastSteps_1 _ (List.mem_of_getElem? (i := 14) rfl)) (goodIn_c (glX9_leastSteps_1 _ (List.mem_of_getElem? (i := 15) rfl)) (goodIn_c (glX9_leastSteps_1 _ (List.mem_of_getElem? (i := 16) rfl)) (goodIn_c (glX9_leastSteps_0 _ (List.mem_of_getElem? (i := 6) rfl)) (goodIn_c (glX9_leastSteps_1 _ (List.mem_of_getElem? (i := 17) rfl)) (goodIn_c (glX9_leastSteps_0 _ (List.mem_of_getElem? (i := 23) rfl)) (goodIn_c (glX9_leastSteps_0 _ (List.mem_of_getElem? (i := 20) rfl)) (goodIn_c (glX9_leastSteps_0 _ (List.mem_of_getElem? (i := 21) rfl)) (goodIn_c (glX9_leastSteps_0 _ (List.mem_of_getElem? (i := 12) rfl)) (goodIn_c (glX9_leastSteps_0 _ (List.mem_of_getElem? (i := 22) rfl)) (goodIn_c (glX9_leastSteps_1 _ (List.mem_of_getElem? (i := 18) rfl)) (goodIn_c (glX9_leastSteps_1 _ (List.mem_of_getElem? (i := 19) rfl)) (goodIn_c (glX9_leastSteps_1 _ (List.mem_of_getElem? (i := 20) rfl)) (goodIn_c (glX9_leastSteps_1 _ (List.mem_of_getElem? (i := 21) rfl)) (goodIn_c (glX9_leastSteps_1 _ (List.mem_of_getElem? (i := 22) rfl)) (goodIn_n))))))))))))))))))))))))) (glX9_leastSteps_2))
set_option maxRecDepth 20000 in
theorem gX9_leastSteps_X9_goToNextStreet : GoodIn wsX9_leastSteps (wsV RX9 44 RX9 yX9_goToNextStreet wsX9_goToNextStreet) := goodIn_app (goodIn_of _ (by decide +kernel)) ggX9_leastSteps_X9_goToNextStreet
set_option maxRecDepth 20000 in
theorem ggX9_leastSteps_X9_leastInto : GoodIn wsX9_leastSteps wsX9_leastInto := goodIn_c (glX9_leastSteps_1 _ (List.mem_of_getElem? (i := 17) rfl)) (goodIn_app (goodIn_c (glX9_leastSteps_0 _ (List.mem_of_getElem? (i := 2) rfl)) (goodIn_c (glX9_leastSteps_0 _ (List.mem_of_getElem? (i := 1) rfl)) (goodIn_c (glX9_leastSteps_0 _ (List.mem_of_getElem? (i := 23) rfl)) (goodIn_c (glX9_leastSteps_0 _ (List.mem_of_getElem? (i := 20) rfl)) (goodIn_c (glX9_leastSteps_0 _ (List.mem_of_getElem? (i := 21) rfl)) (goodIn_c (glX9_leastSteps_0 _ (List.mem_of_getElem? (i := 12) rfl)) (goodIn_c (glX9_leastSteps_0 _ (List.mem_of_getElem? (i := 22) rfl)) (goodIn_c (glX9_leastSteps_1 _ (List.mem_of_getElem? (i := 18) rfl)) (goodIn_c (glX9_leastSteps_1 _ (List.mem_of_getElem? (i := 19) rfl)) (goodIn_c (glX9_leastSteps_0 _ (List.mem_of_getElem? (i := 6) rfl)) (goodIn_c (glX9_leastSteps_1 _ (List.mem_of_getElem? (i := 20) rfl)) (goodIn_c (glX9_leastSteps_1 _ (List.mem_of_getElem? (i := 8) rfl)) (goodIn_c (glX9_leastSteps_1 _ (List.mem_of_getElem? (i := 21) rfl)) (goodIn_c (glX9_leastSteps_1 _ (List.mem_of_getElem? (i := 9) rfl)) (goodIn_c (glX9_leastSteps_1 _ (List.mem_of_getElem? (i := 22) rfl)) (goodIn_n)))))))))))))))) (glX9_leastSteps_2))
set_option maxRecDepth 20000 in
theorem gX9_leastSteps_X9_leastInto : GoodIn wsX9_leastSteps (wsV RX9 47 RX9 yX9_leastInto wsX9_leastInto) := goodIn_app (goodIn_of _ (by decide +kernel)) ggX9_leastSteps_X9_leastInto
theorem dX9_leastSteps_0 : decode cX9_leastSteps 0 = .ok (.aload_n 0, 1) := by decide +kernel
theorem dX9_leastSteps_1 : decode cX9_leastSteps 1 = .ok (.getfield 31, 3) := by decide +kernel
theorem dX9_leastSteps_4 : decode cX9_leastSteps 4 = .ok (.ifCond .ne 5, 3) := by decide +kernel
theorem dX9_leastSteps_7 : decode cX9_leastSteps 7 = .ok (.iconst 0, 1) := by decide +kernel
theorem dX9_leastSteps_8 : decode cX9_leastSteps 8 = .ok (.ireturn, 1) := by decide +kernel
theorem dX9_leastSteps_9 : decode cX9_leastSteps 9 = .ok (.iconst 0, 1) := by decide +kernel
theorem dX9_leastSteps_10 : decode cX9_leastSteps 10 = .ok (.istore_n 1, 1) := by decide +kernel
theorem dX9_leastSteps_11 : decode cX9_leastSteps 11 = .ok (.iload_n 1, 1) := by decide +kernel
theorem dX9_leastSteps_12 : decode cX9_leastSteps 12 = .ok (.bipush 6, 2) := by decide +kernel
theorem dX9_leastSteps_14 : decode cX9_leastSteps 14 = .ok (.if_icmp .ge 26, 3) := by decide +kernel
theorem dX9_leastSteps_17 : decode cX9_leastSteps 17 = .ok (.aload_n 0, 1) := by decide +kernel
theorem dX9_leastSteps_18 : decode cX9_leastSteps 18 = .ok (.getfield 25, 3) := by decide +kernel
theorem dX9_leastSteps_21 : decode cX9_leastSteps 21 = .ok (.iload_n 1, 1) := by decide +kernel
theorem dX9_leastSteps_22 : decode cX9_leastSteps 22 = .ok (.iload_n 1, 1) := by decide +kernel
theorem dX9_leastSteps_23 : decode cX9_leastSteps 23 = .ok (.iconst 5, 1) := by decide +kernel
theorem dX9_leastSteps_24 : decode cX9_leastSteps 24 = .ok (.if_icmp .ne 7, 3) := by decide +kernel
theorem dX9_leastSteps_27 : decode cX9_leastSteps 27 = .ok (.iconst 0, 1) := by decide +kernel
theorem dX9_leastSteps_28 : decode cX9_leastSteps 28 = .ok (.goto 5, 3) := by decide +kernel
theorem dX9_leastSteps_31 : decode cX9_leastSteps 31 = .ok (.ldc 35, 2) := by decide +kernel
theorem dX9_leastSteps_33 : decode cX9_leastSteps 33 = .ok (.iastore, 1) := by decide +kernel
theorem dX9_leastSteps_34 : decode cX9_leastSteps 34 = .ok (.iinc 1 1, 3) := by decide +kernel
theorem dX9_leastSteps_37 : decode cX9_leastSteps 37 = .ok (.goto (-26), 3) := by decide +kernel
theorem dX9_leastSteps_40 : decode cX9_leastSteps 40 = .ok (.aload_n 0, 1) := by decide +kernel
theorem dX9_leastSteps_41 : decode cX9_leastSteps 41 = .ok (.invokevirtual 36, 3) := by decide +kernel
theorem dX9_leastSteps_44 : decode cX9_leastSteps 44 = .ok (.istore_n 1, 1) := by decide +kernel
theorem dX9_leastSteps_45 : decode cX9_leastSteps 45 = .ok (.iconst 0, 1) := by decide +kernel
theorem dX9_leastSteps_46 : decode cX9_leastSteps 46 = .ok (.istore_n 2, 1) := by decide +kernel
theorem dX9_leastSteps_47 : decode cX9_leastSteps 47 = .ok (.iload_n 2, 1) := by decide +kernel
theorem dX9_leastSteps_48 : decode cX9_leastSteps 48 = .ok (.iload_n 1, 1) := by decide +kernel
theorem dX9_leastSteps_49 : decode cX9_leastSteps 49 = .ok (.if_icmp .ge 18, 3) := by decide +kernel
theorem dX9_leastSteps_52 : decode cX9_leastSteps 52 = .ok (.aload_n 0, 1) := by decide +kernel
theorem dX9_leastSteps_53 : decode cX9_leastSteps 53 = .ok (.iload_n 2, 1) := by decide +kernel
theorem dX9_leastSteps_54 : decode cX9_leastSteps 54 = .ok (.invokevirtual 40, 3) := by decide +kernel
theorem dX9_leastSteps_57 : decode cX9_leastSteps 57 = .ok (.aload_n 0, 1) := by decide +kernel
theorem dX9_leastSteps_58 : decode cX9_leastSteps 58 = .ok (.invokevirtual 44, 3) := by decide +kernel
theorem dX9_leastSteps_61 : decode cX9_leastSteps 61 = .ok (.iinc 2 1, 3) := by decide +kernel
theorem dX9_leastSteps_64 : decode cX9_leastSteps 64 = .ok (.goto (-17), 3) := by decide +kernel
theorem dX9_leastSteps_67 : decode cX9_leastSteps 67 = .ok (.aload_n 0, 1) := by decide +kernel
theorem dX9_leastSteps_68 : decode cX9_leastSteps 68 = .ok (.iload_n 1, 1) := by decide +kernel
theorem dX9_leastSteps_69 : decode cX9_leastSteps 69 = .ok (.invokevirtual 40, 3) := by decide +kernel
theorem dX9_leastSteps_72 : decode cX9_leastSteps 72 = .ok (.aload_n 0, 1) := by decide +kernel
theorem dX9_leastSteps_73 : decode cX9_leastSteps 73 = .ok (.iconst 5, 1) := by decide +kernel
theorem dX9_leastSteps_74 : decode cX9_leastSteps 74 = .ok (.invokevirtual 47, 3) := by decide +kernel
theorem dX9_leastSteps_77 : decode cX9_leastSteps 77 = .ok (.ireturn, 1) := by decide +kernel
theorem dX9_lastStreet_0 : decode cX9_lastStreet 0 = .ok (.iconst 0, 1) := by decide +kernel
theorem dX9_lastStreet_1 : decode cX9_lastStreet 1 = .ok (.istore_n 1, 1) := by decide +kernel
theorem dX9_lastStreet_2 : decode cX9_lastStreet 2 = .ok (.iconst 0, 1) := by decide +kernel
theorem dX9_lastStreet_3 : decode cX9_lastStreet 3 = .ok (.istore_n 2, 1) := by decide +kernel
theorem dX9_lastStreet_4 : decode cX9_lastStreet 4 = .ok (.iload_n 2, 1) := by decide +kernel
theorem dX9_lastStreet_5 : decode cX9_lastStreet 5 = .ok (.aload_n 0, 1) := by decide +kernel
theorem dX9_lastStreet_6 : decode cX9_lastStreet 6 = .ok (.getfield 31, 3) := by decide +kernel
theorem dX9_lastStreet_9 : decode cX9_lastStreet 9 = .ok (.if_icmp .ge 23, 3) := by decide +kernel
theorem dX9_lastStreet_12 : decode cX9_lastStreet 12 = .ok (.iload_n 1, 1) := by decide +kernel
theorem dX9_lastStreet_13 : decode cX9_lastStreet 13 = .ok (.aload_n 0, 1) := by decide +kernel
theorem dX9_lastStreet_14 : decode cX9_lastStreet 14 = .ok (.getfield 11, 3) := by decide +kernel
theorem dX9_lastStreet_17 : decode cX9_lastStreet 17 = .ok (.iload_n 2, 1) := by decide +kernel
theorem dX9_lastStreet_18 : decode cX9_lastStreet 18 = .ok (.aaload, 1) := by decide +kernel
theorem dX9_lastStreet_19 : decode cX9_lastStreet 19 = .ok (.getfield 51, 3) := by decide +kernel
theorem dX9_lastStreet_22 : decode cX9_lastStreet 22 = .ok (.invokestatic 54, 3) := by decide +kernel
theorem dX9_lastStreet_25 : decode cX9_lastStreet 25 = .ok (.istore_n 1, 1) := by decide +kernel
theorem dX9_lastStreet_26 : decode cX9_lastStreet 26 = .ok (.iinc 2 1, 3) := by decide +kernel
theorem dX9_lastStreet_29 : decode cX9_lastStreet 29 = .ok (.goto (-25), 3) := by decide +kernel
theorem dX9_lastStreet_32 : decode cX9_lastStreet 32 = .ok (.iload_n 1, 1) := by decide +kernel
theorem dX9_lastStreet_33 : decode cX9_lastStreet 33 = .ok (.ireturn, 1) := by decide +kernel
set_option maxRecDepth 20000 in
theorem glX9_measure_0 : GoodIn wsX9_measure ([.fieldLink RX9 17 "PostHouse$Walk" "marked" "[Z", .fieldLink RX9 31 "PostHouse$Walk" "size" "I", .fieldLink RX9 11 "PostHouse$Walk" "picks" "[LPostHouse$Thing;", .fieldLink RX9 51 "PostHouse$Thing" "street" "I", .fieldLink RX9 60 "PostHouse$Thing" "place" "I", .methodLink RX9 54 Lib.Math.max.name, .static Lib.Math.max.name, .initialized "java/lang/Math", .code Lib.Math.max.name Lib.Math.max.code 2 (some .int), .methodLink RX9 67 Lib.Math.min.name, .static Lib.Math.min.name, .code Lib.Math.min.name Lib.Math.min.code 2 (some .int), .fieldLink RX9 21 "PostHouse$Walk" "waySteps" "[I", .constant RX9 35 (1000000), .static yX11_within, .initialized RX11, .code yX11_within cX11_within 3 (some .boolean)]) := goodIn_sub (fun _ h => List.mem_cons_of_mem _ (List.mem_append_left _ (List.mem_append_left _ (h)))) (by decide +kernel)
set_option maxRecDepth 20000 in
theorem ggX9_measure_X11_within : GoodIn wsX9_measure wsX11_within := goodIn_c (glX9_measure_0 _ (List.mem_of_getElem? (i := 16) rfl)) (goodIn_n)
set_option maxRecDepth 20000 in
theorem gX9_measure_X11_within_n63 : GoodIn wsX9_measure (wsX11_within) := ggX9_measure_X11_within
theorem dX9_measure_0 : decode cX9_measure 0 = .ok (.iconst 0, 1) := by decide +kernel
theorem dX9_measure_1 : decode cX9_measure 1 = .ok (.istore_n 2, 1) := by decide +kernel
theorem dX9_measure_2 : decode cX9_measure 2 = .ok (.iload_n 2, 1) := by decide +kernel
theorem dX9_measure_3 : decode cX9_measure 3 = .ok (.bipush 21, 2) := by decide +kernel
theorem dX9_measure_5 : decode cX9_measure 5 = .ok (.if_icmp .ge 16, 3) := by decide +kernel
theorem dX9_measure_8 : decode cX9_measure 8 = .ok (.aload_n 0, 1) := by decide +kernel
theorem dX9_measure_9 : decode cX9_measure 9 = .ok (.getfield 17, 3) := by decide +kernel
theorem dX9_measure_12 : decode cX9_measure 12 = .ok (.iload_n 2, 1) := by decide +kernel
theorem dX9_measure_13 : decode cX9_measure 13 = .ok (.iconst 0, 1) := by decide +kernel
theorem dX9_measure_14 : decode cX9_measure 14 = .ok (.bastore, 1) := by decide +kernel
theorem dX9_measure_15 : decode cX9_measure 15 = .ok (.iinc 2 1, 3) := by decide +kernel
theorem dX9_measure_18 : decode cX9_measure 18 = .ok (.goto (-16), 3) := by decide +kernel
theorem dX9_measure_21 : decode cX9_measure 21 = .ok (.iconst 0, 1) := by decide +kernel
theorem dX9_measure_22 : decode cX9_measure 22 = .ok (.istore_n 2, 1) := by decide +kernel
theorem dX9_measure_23 : decode cX9_measure 23 = .ok (.iload_n 2, 1) := by decide +kernel
theorem dX9_measure_24 : decode cX9_measure 24 = .ok (.aload_n 0, 1) := by decide +kernel
theorem dX9_measure_25 : decode cX9_measure 25 = .ok (.getfield 31, 3) := by decide +kernel
theorem dX9_measure_28 : decode cX9_measure 28 = .ok (.if_icmp .ge 55, 3) := by decide +kernel
theorem dX9_measure_31 : decode cX9_measure 31 = .ok (.aload_n 0, 1) := by decide +kernel
theorem dX9_measure_32 : decode cX9_measure 32 = .ok (.getfield 11, 3) := by decide +kernel
theorem dX9_measure_35 : decode cX9_measure 35 = .ok (.iload_n 2, 1) := by decide +kernel
theorem dX9_measure_36 : decode cX9_measure 36 = .ok (.aaload, 1) := by decide +kernel
theorem dX9_measure_37 : decode cX9_measure 37 = .ok (.getfield 51, 3) := by decide +kernel
theorem dX9_measure_40 : decode cX9_measure 40 = .ok (.iload_n 1, 1) := by decide +kernel
theorem dX9_measure_41 : decode cX9_measure 41 = .ok (.if_icmp .ne 36, 3) := by decide +kernel
theorem dX9_measure_44 : decode cX9_measure 44 = .ok (.aload_n 0, 1) := by decide +kernel
theorem dX9_measure_45 : decode cX9_measure 45 = .ok (.getfield 11, 3) := by decide +kernel
theorem dX9_measure_48 : decode cX9_measure 48 = .ok (.iload_n 2, 1) := by decide +kernel
theorem dX9_measure_49 : decode cX9_measure 49 = .ok (.aaload, 1) := by decide +kernel
theorem dX9_measure_50 : decode cX9_measure 50 = .ok (.getfield 60, 3) := by decide +kernel
theorem dX9_measure_53 : decode cX9_measure 53 = .ok (.iconst 1, 1) := by decide +kernel
theorem dX9_measure_54 : decode cX9_measure 54 = .ok (.bipush 20, 2) := by decide +kernel
theorem dX9_measure_56 : decode cX9_measure 56 = .ok (.invokestatic 63, 3) := by decide +kernel
theorem dX9_measure_59 : decode cX9_measure 59 = .ok (.ifCond .eq 18, 3) := by decide +kernel
theorem dX9_measure_62 : decode cX9_measure 62 = .ok (.aload_n 0, 1) := by decide +kernel
theorem dX9_measure_63 : decode cX9_measure 63 = .ok (.getfield 17, 3) := by decide +kernel
theorem dX9_measure_66 : decode cX9_measure 66 = .ok (.aload_n 0, 1) := by decide +kernel
theorem dX9_measure_67 : decode cX9_measure 67 = .ok (.getfield 11, 3) := by decide +kernel
theorem dX9_measure_70 : decode cX9_measure 70 = .ok (.iload_n 2, 1) := by decide +kernel
theorem dX9_measure_71 : decode cX9_measure 71 = .ok (.aaload, 1) := by decide +kernel
theorem dX9_measure_72 : decode cX9_measure 72 = .ok (.getfield 60, 3) := by decide +kernel
theorem dX9_measure_75 : decode cX9_measure 75 = .ok (.iconst 1, 1) := by decide +kernel
theorem dX9_measure_76 : decode cX9_measure 76 = .ok (.bastore, 1) := by decide +kernel
theorem dX9_measure_77 : decode cX9_measure 77 = .ok (.iinc 2 1, 3) := by decide +kernel
theorem dX9_measure_80 : decode cX9_measure 80 = .ok (.goto (-57), 3) := by decide +kernel
theorem dX9_measure_83 : decode cX9_measure 83 = .ok (.bipush 21, 2) := by decide +kernel
theorem dX9_measure_85 : decode cX9_measure 85 = .ok (.istore_n 2, 1) := by decide +kernel
theorem dX9_measure_86 : decode cX9_measure 86 = .ok (.iconst 0, 1) := by decide +kernel
theorem dX9_measure_87 : decode cX9_measure 87 = .ok (.istore_n 3, 1) := by decide +kernel
theorem dX9_measure_88 : decode cX9_measure 88 = .ok (.iconst 0, 1) := by decide +kernel
theorem dX9_measure_89 : decode cX9_measure 89 = .ok (.istore 4, 2) := by decide +kernel
theorem dX9_measure_91 : decode cX9_measure 91 = .ok (.iconst 1, 1) := by decide +kernel
theorem dX9_measure_92 : decode cX9_measure 92 = .ok (.istore 5, 2) := by decide +kernel
theorem dX9_measure_94 : decode cX9_measure 94 = .ok (.iload 5, 2) := by decide +kernel
theorem dX9_measure_96 : decode cX9_measure 96 = .ok (.bipush 21, 2) := by decide +kernel
theorem dX9_measure_98 : decode cX9_measure 98 = .ok (.if_icmp .ge 48, 3) := by decide +kernel
theorem dX9_measure_101 : decode cX9_measure 101 = .ok (.aload_n 0, 1) := by decide +kernel
theorem dX9_measure_102 : decode cX9_measure 102 = .ok (.getfield 17, 3) := by decide +kernel
theorem dX9_measure_105 : decode cX9_measure 105 = .ok (.iload 5, 2) := by decide +kernel
theorem dX9_measure_107 : decode cX9_measure 107 = .ok (.baload, 1) := by decide +kernel
theorem dX9_measure_108 : decode cX9_measure 108 = .ok (.ifCond .eq 32, 3) := by decide +kernel
theorem dX9_measure_111 : decode cX9_measure 111 = .ok (.iload_n 3, 1) := by decide +kernel
theorem dX9_measure_112 : decode cX9_measure 112 = .ok (.ifCond .ne 7, 3) := by decide +kernel
theorem dX9_measure_115 : decode cX9_measure 115 = .ok (.iconst 0, 1) := by decide +kernel
theorem dX9_measure_116 : decode cX9_measure 116 = .ok (.goto 12, 3) := by decide +kernel
theorem dX9_measure_119 : decode cX9_measure 119 = .ok (.iload 4, 2) := by decide +kernel
theorem dX9_measure_121 : decode cX9_measure 121 = .ok (.iload 5, 2) := by decide +kernel
theorem dX9_measure_123 : decode cX9_measure 123 = .ok (.iload_n 3, 1) := by decide +kernel
theorem dX9_measure_124 : decode cX9_measure 124 = .ok (.isub, 1) := by decide +kernel
theorem dX9_measure_125 : decode cX9_measure 125 = .ok (.invokestatic 54, 3) := by decide +kernel
theorem dX9_measure_128 : decode cX9_measure 128 = .ok (.istore 4, 2) := by decide +kernel
theorem dX9_measure_130 : decode cX9_measure 130 = .ok (.iload_n 2, 1) := by decide +kernel
theorem dX9_measure_131 : decode cX9_measure 131 = .ok (.iload 5, 2) := by decide +kernel
theorem dX9_measure_133 : decode cX9_measure 133 = .ok (.invokestatic 67, 3) := by decide +kernel
theorem dX9_measure_136 : decode cX9_measure 136 = .ok (.istore_n 2, 1) := by decide +kernel
theorem dX9_measure_137 : decode cX9_measure 137 = .ok (.iload 5, 2) := by decide +kernel
theorem dX9_measure_139 : decode cX9_measure 139 = .ok (.istore_n 3, 1) := by decide +kernel
theorem dX9_measure_140 : decode cX9_measure 140 = .ok (.iinc 5 1, 3) := by decide +kernel
theorem dX9_measure_143 : decode cX9_measure 143 = .ok (.goto (-49), 3) := by decide +kernel
theorem dX9_measure_146 : decode cX9_measure 146 = .ok (.aload_n 0, 1) := by decide +kernel
theorem dX9_measure_147 : decode cX9_measure 147 = .ok (.getfield 21, 3) := by decide +kernel
theorem dX9_measure_150 : decode cX9_measure 150 = .ok (.iconst 0, 1) := by decide +kernel
theorem dX9_measure_151 : decode cX9_measure 151 = .ok (.bipush 21, 2) := by decide +kernel
theorem dX9_measure_153 : decode cX9_measure 153 = .ok (.iastore, 1) := by decide +kernel
theorem dX9_measure_154 : decode cX9_measure 154 = .ok (.aload_n 0, 1) := by decide +kernel
theorem dX9_measure_155 : decode cX9_measure 155 = .ok (.getfield 21, 3) := by decide +kernel
theorem dX9_measure_158 : decode cX9_measure 158 = .ok (.iconst 1, 1) := by decide +kernel
theorem dX9_measure_159 : decode cX9_measure 159 = .ok (.bipush 42, 2) := by decide +kernel
theorem dX9_measure_161 : decode cX9_measure 161 = .ok (.iastore, 1) := by decide +kernel
theorem dX9_measure_162 : decode cX9_measure 162 = .ok (.aload_n 0, 1) := by decide +kernel
theorem dX9_measure_163 : decode cX9_measure 163 = .ok (.getfield 21, 3) := by decide +kernel
theorem dX9_measure_166 : decode cX9_measure 166 = .ok (.iconst 2, 1) := by decide +kernel
theorem dX9_measure_167 : decode cX9_measure 167 = .ok (.iconst 2, 1) := by decide +kernel
theorem dX9_measure_168 : decode cX9_measure 168 = .ok (.iload_n 3, 1) := by decide +kernel
theorem dX9_measure_169 : decode cX9_measure 169 = .ok (.imul, 1) := by decide +kernel
theorem dX9_measure_170 : decode cX9_measure 170 = .ok (.iastore, 1) := by decide +kernel
theorem dX9_measure_171 : decode cX9_measure 171 = .ok (.aload_n 0, 1) := by decide +kernel
theorem dX9_measure_172 : decode cX9_measure 172 = .ok (.getfield 21, 3) := by decide +kernel
theorem dX9_measure_175 : decode cX9_measure 175 = .ok (.iconst 3, 1) := by decide +kernel
theorem dX9_measure_176 : decode cX9_measure 176 = .ok (.iconst 2, 1) := by decide +kernel
theorem dX9_measure_177 : decode cX9_measure 177 = .ok (.bipush 21, 2) := by decide +kernel
theorem dX9_measure_179 : decode cX9_measure 179 = .ok (.iload_n 2, 1) := by decide +kernel
theorem dX9_measure_180 : decode cX9_measure 180 = .ok (.isub, 1) := by decide +kernel
theorem dX9_measure_181 : decode cX9_measure 181 = .ok (.imul, 1) := by decide +kernel
theorem dX9_measure_182 : decode cX9_measure 182 = .ok (.iastore, 1) := by decide +kernel
theorem dX9_measure_183 : decode cX9_measure 183 = .ok (.aload_n 0, 1) := by decide +kernel
theorem dX9_measure_184 : decode cX9_measure 184 = .ok (.getfield 21, 3) := by decide +kernel
theorem dX9_measure_187 : decode cX9_measure 187 = .ok (.iconst 4, 1) := by decide +kernel
theorem dX9_measure_188 : decode cX9_measure 188 = .ok (.iconst 2, 1) := by decide +kernel
theorem dX9_measure_189 : decode cX9_measure 189 = .ok (.bipush 21, 2) := by decide +kernel
theorem dX9_measure_191 : decode cX9_measure 191 = .ok (.iload 4, 2) := by decide +kernel
theorem dX9_measure_193 : decode cX9_measure 193 = .ok (.isub, 1) := by decide +kernel
theorem dX9_measure_194 : decode cX9_measure 194 = .ok (.imul, 1) := by decide +kernel
theorem dX9_measure_195 : decode cX9_measure 195 = .ok (.iastore, 1) := by decide +kernel
theorem dX9_measure_196 : decode cX9_measure 196 = .ok (.aload_n 0, 1) := by decide +kernel
theorem dX9_measure_197 : decode cX9_measure 197 = .ok (.getfield 21, 3) := by decide +kernel
theorem dX9_measure_200 : decode cX9_measure 200 = .ok (.iconst 5, 1) := by decide +kernel
theorem dX9_measure_201 : decode cX9_measure 201 = .ok (.iload_n 3, 1) := by decide +kernel
theorem dX9_measure_202 : decode cX9_measure 202 = .ok (.ifCond .ne 7, 3) := by decide +kernel
theorem dX9_measure_205 : decode cX9_measure 205 = .ok (.iconst 0, 1) := by decide +kernel
theorem dX9_measure_206 : decode cX9_measure 206 = .ok (.goto 5, 3) := by decide +kernel
theorem dX9_measure_209 : decode cX9_measure 209 = .ok (.ldc 35, 2) := by decide +kernel
theorem dX9_measure_211 : decode cX9_measure 211 = .ok (.iastore, 1) := by decide +kernel
theorem dX9_measure_212 : decode cX9_measure 212 = .ok (.return_, 1) := by decide +kernel
set_option maxRecDepth 20000 in
theorem glX9_goToNextStreet_0 : GoodIn wsX9_goToNextStreet ([.fieldLink RX9 28 "PostHouse$Walk" "nextBest" "[I", .fieldLink RX9 70 "PostHouse$Walk" "LANE_FRONT" "[I", .fieldLink RX9 73 "PostHouse$Walk" "LANE_BACK" "[I", .constant RX9 35 (1000000), .fieldLink RX9 25 "PostHouse$Walk" "best" "[I", .methodLink RX9 76 arraycopyName, .native arraycopyName, .static arraycopyName, .initialized "java/lang/System", .methodLink RX9 47 yX9_leastInto, .instanceMethod yX9_leastInto, .selects RX9 yX9_leastInto yX9_leastInto, .initialized RX9, .code yX9_leastInto cX9_leastInto 5 (some .int), .fieldLink RX9 21 "PostHouse$Walk" "waySteps" "[I", .methodLink RX9 67 Lib.Math.min.name, .static Lib.Math.min.name, .initialized "java/lang/Math", .code Lib.Math.min.name Lib.Math.min.code 2 (some .int), .methodLink RX9 82 yX9_fits, .static yX9_fits, .code yX9_fits cX9_fits 9 (some .boolean), .fieldLink RX9 85 "PostHouse$Walk" "WAY_FRONT" "[I", .fieldLink RX9 88 "PostHouse$Walk" "WAY_BACK" "[I"]) := goodIn_sub (fun _ h => List.mem_cons_of_mem _ (List.mem_append_left _ (h))) (by decide +kernel)
set_option maxRecDepth 20000 in
theorem glX9_goToNextStreet_1 : GoodIn wsX9_goToNextStreet (wsX90) := goodIn_sub (fun _ h => List.mem_cons_of_mem _ (List.mem_append_right _ (h))) ag_wsX90
set_option maxRecDepth 20000 in
theorem ggX9_goToNextStreet_X9_leastInto : GoodIn wsX9_goToNextStreet wsX9_leastInto := goodIn_c (glX9_goToNextStreet_0 _ (List.mem_of_getElem? (i := 13) rfl)) (goodIn_app (goodIn_c (glX9_goToNextStreet_0 _ (List.mem_of_getElem? (i := 3) rfl)) (goodIn_c (glX9_goToNextStreet_0 _ (List.mem_of_getElem? (i := 4) rfl)) (goodIn_c (glX9_goToNextStreet_0 _ (List.mem_of_getElem? (i := 14) rfl)) (goodIn_c (glX9_goToNextStreet_0 _ (List.mem_of_getElem? (i := 15) rfl)) (goodIn_c (glX9_goToNextStreet_0 _ (List.mem_of_getElem? (i := 16) rfl)) (goodIn_c (glX9_goToNextStreet_0 _ (List.mem_of_getElem? (i := 17) rfl)) (goodIn_c (glX9_goToNextStreet_0 _ (List.mem_of_getElem? (i := 18) rfl)) (goodIn_c (glX9_goToNextStreet_0 _ (List.mem_of_getElem? (i := 19) rfl)) (goodIn_c (glX9_goToNextStreet_0 _ (List.mem_of_getElem? (i := 20) rfl)) (goodIn_c (glX9_goToNextStreet_0 _ (List.mem_of_getElem? (i := 12) rfl)) (goodIn_c (glX9_goToNextStreet_0 _ (List.mem_of_getElem? (i := 21) rfl)) (goodIn_c (glX9_goToNextStreet_0 _ (List.mem_of_getElem? (i := 1) rfl)) (goodIn_c (glX9_goToNextStreet_0 _ (List.mem_of_getElem? (i := 22) rfl)) (goodIn_c (glX9_goToNextStreet_0 _ (List.mem_of_getElem? (i := 2) rfl)) (goodIn_c (glX9_goToNextStreet_0 _ (List.mem_of_getElem? (i := 23) rfl)) (goodIn_n)))))))))))))))) (glX9_goToNextStreet_1))
set_option maxRecDepth 20000 in
theorem gX9_goToNextStreet_X9_leastInto : GoodIn wsX9_goToNextStreet (wsV RX9 47 RX9 yX9_leastInto wsX9_leastInto) := goodIn_app (goodIn_of _ (by decide +kernel)) ggX9_goToNextStreet_X9_leastInto
theorem dX9_goToNextStreet_0 : decode cX9_goToNextStreet 0 = .ok (.iconst 0, 1) := by decide +kernel
theorem dX9_goToNextStreet_1 : decode cX9_goToNextStreet 1 = .ok (.istore_n 1, 1) := by decide +kernel
theorem dX9_goToNextStreet_2 : decode cX9_goToNextStreet 2 = .ok (.iload_n 1, 1) := by decide +kernel
theorem dX9_goToNextStreet_3 : decode cX9_goToNextStreet 3 = .ok (.iconst 5, 1) := by decide +kernel
theorem dX9_goToNextStreet_4 : decode cX9_goToNextStreet 4 = .ok (.if_icmp .ge 35, 3) := by decide +kernel
theorem dX9_goToNextStreet_7 : decode cX9_goToNextStreet 7 = .ok (.aload_n 0, 1) := by decide +kernel
theorem dX9_goToNextStreet_8 : decode cX9_goToNextStreet 8 = .ok (.getfield 28, 3) := by decide +kernel
theorem dX9_goToNextStreet_11 : decode cX9_goToNextStreet 11 = .ok (.iload_n 1, 1) := by decide +kernel
theorem dX9_goToNextStreet_12 : decode cX9_goToNextStreet 12 = .ok (.aload_n 0, 1) := by decide +kernel
theorem dX9_goToNextStreet_13 : decode cX9_goToNextStreet 13 = .ok (.iload_n 1, 1) := by decide +kernel
theorem dX9_goToNextStreet_14 : decode cX9_goToNextStreet 14 = .ok (.invokevirtual 47, 3) := by decide +kernel
theorem dX9_goToNextStreet_17 : decode cX9_goToNextStreet 17 = .ok (.bipush 6, 2) := by decide +kernel
theorem dX9_goToNextStreet_19 : decode cX9_goToNextStreet 19 = .ok (.getstatic 70, 3) := by decide +kernel
theorem dX9_goToNextStreet_22 : decode cX9_goToNextStreet 22 = .ok (.iload_n 1, 1) := by decide +kernel
theorem dX9_goToNextStreet_23 : decode cX9_goToNextStreet 23 = .ok (.iaload, 1) := by decide +kernel
theorem dX9_goToNextStreet_24 : decode cX9_goToNextStreet 24 = .ok (.getstatic 73, 3) := by decide +kernel
theorem dX9_goToNextStreet_27 : decode cX9_goToNextStreet 27 = .ok (.iload_n 1, 1) := by decide +kernel
theorem dX9_goToNextStreet_28 : decode cX9_goToNextStreet 28 = .ok (.iaload, 1) := by decide +kernel
theorem dX9_goToNextStreet_29 : decode cX9_goToNextStreet 29 = .ok (.iadd, 1) := by decide +kernel
theorem dX9_goToNextStreet_30 : decode cX9_goToNextStreet 30 = .ok (.imul, 1) := by decide +kernel
theorem dX9_goToNextStreet_31 : decode cX9_goToNextStreet 31 = .ok (.iadd, 1) := by decide +kernel
theorem dX9_goToNextStreet_32 : decode cX9_goToNextStreet 32 = .ok (.iastore, 1) := by decide +kernel
theorem dX9_goToNextStreet_33 : decode cX9_goToNextStreet 33 = .ok (.iinc 1 1, 3) := by decide +kernel
theorem dX9_goToNextStreet_36 : decode cX9_goToNextStreet 36 = .ok (.goto (-34), 3) := by decide +kernel
theorem dX9_goToNextStreet_39 : decode cX9_goToNextStreet 39 = .ok (.aload_n 0, 1) := by decide +kernel
theorem dX9_goToNextStreet_40 : decode cX9_goToNextStreet 40 = .ok (.getfield 28, 3) := by decide +kernel
theorem dX9_goToNextStreet_43 : decode cX9_goToNextStreet 43 = .ok (.iconst 5, 1) := by decide +kernel
theorem dX9_goToNextStreet_44 : decode cX9_goToNextStreet 44 = .ok (.ldc 35, 2) := by decide +kernel
theorem dX9_goToNextStreet_46 : decode cX9_goToNextStreet 46 = .ok (.iastore, 1) := by decide +kernel
theorem dX9_goToNextStreet_47 : decode cX9_goToNextStreet 47 = .ok (.aload_n 0, 1) := by decide +kernel
theorem dX9_goToNextStreet_48 : decode cX9_goToNextStreet 48 = .ok (.getfield 28, 3) := by decide +kernel
theorem dX9_goToNextStreet_51 : decode cX9_goToNextStreet 51 = .ok (.iconst 0, 1) := by decide +kernel
theorem dX9_goToNextStreet_52 : decode cX9_goToNextStreet 52 = .ok (.aload_n 0, 1) := by decide +kernel
theorem dX9_goToNextStreet_53 : decode cX9_goToNextStreet 53 = .ok (.getfield 25, 3) := by decide +kernel
theorem dX9_goToNextStreet_56 : decode cX9_goToNextStreet 56 = .ok (.iconst 0, 1) := by decide +kernel
theorem dX9_goToNextStreet_57 : decode cX9_goToNextStreet 57 = .ok (.bipush 6, 2) := by decide +kernel
theorem dX9_goToNextStreet_59 : decode cX9_goToNextStreet 59 = .ok (.invokestatic 76, 3) := by decide +kernel
theorem dX9_goToNextStreet_62 : decode cX9_goToNextStreet 62 = .ok (.return_, 1) := by decide +kernel
set_option maxRecDepth 20000 in
theorem glX9_leastInto_0 : GoodIn wsX9_leastInto ([.constant RX9 35 (1000000), .fieldLink RX9 25 "PostHouse$Walk" "best" "[I", .fieldLink RX9 21 "PostHouse$Walk" "waySteps" "[I", .methodLink RX9 67 Lib.Math.min.name, .static Lib.Math.min.name, .initialized "java/lang/Math", .code Lib.Math.min.name Lib.Math.min.code 2 (some .int), .methodLink RX9 82 yX9_fits, .static yX9_fits, .initialized RX9, .code yX9_fits cX9_fits 9 (some .boolean), .fieldLink RX9 70 "PostHouse$Walk" "LANE_FRONT" "[I", .fieldLink RX9 85 "PostHouse$Walk" "WAY_FRONT" "[I", .fieldLink RX9 73 "PostHouse$Walk" "LANE_BACK" "[I", .fieldLink RX9 88 "PostHouse$Walk" "WAY_BACK" "[I"]) := goodIn_sub (fun _ h => List.mem_cons_of_mem _ (List.mem_append_left _ (h))) (by decide +kernel)
set_option maxRecDepth 20000 in
theorem ggX9_leastInto_X9_fits : GoodIn wsX9_leastInto wsX9_fits := goodIn_c (glX9_leastInto_0 _ (List.mem_of_getElem? (i := 10) rfl)) (goodIn_c (glX9_leastInto_0 _ (List.mem_of_getElem? (i := 11) rfl)) (goodIn_c (glX9_leastInto_0 _ (List.mem_of_getElem? (i := 12) rfl)) (goodIn_c (glX9_leastInto_0 _ (List.mem_of_getElem? (i := 13) rfl)) (goodIn_c (glX9_leastInto_0 _ (List.mem_of_getElem? (i := 14) rfl)) (goodIn_n)))))
set_option maxRecDepth 20000 in
theorem gX9_leastInto_X9_fits : GoodIn wsX9_leastInto (va_wsS RX9 82 yX9_fits wsX9_fits) := goodIn_app (goodIn_of _ (by decide +kernel)) ggX9_leastInto_X9_fits
theorem dX9_leastInto_0 : decode cX9_leastInto 0 = .ok (.ldc 35, 2) := by decide +kernel
theorem dX9_leastInto_2 : decode cX9_leastInto 2 = .ok (.istore_n 2, 1) := by decide +kernel
theorem dX9_leastInto_3 : decode cX9_leastInto 3 = .ok (.iconst 0, 1) := by decide +kernel
theorem dX9_leastInto_4 : decode cX9_leastInto 4 = .ok (.istore_n 3, 1) := by decide +kernel
theorem dX9_leastInto_5 : decode cX9_leastInto 5 = .ok (.iload_n 3, 1) := by decide +kernel
theorem dX9_leastInto_6 : decode cX9_leastInto 6 = .ok (.bipush 6, 2) := by decide +kernel
theorem dX9_leastInto_8 : decode cX9_leastInto 8 = .ok (.if_icmp .ge 54, 3) := by decide +kernel
theorem dX9_leastInto_11 : decode cX9_leastInto 11 = .ok (.iconst 0, 1) := by decide +kernel
theorem dX9_leastInto_12 : decode cX9_leastInto 12 = .ok (.istore 4, 2) := by decide +kernel
theorem dX9_leastInto_14 : decode cX9_leastInto 14 = .ok (.iload 4, 2) := by decide +kernel
theorem dX9_leastInto_16 : decode cX9_leastInto 16 = .ok (.bipush 6, 2) := by decide +kernel
theorem dX9_leastInto_18 : decode cX9_leastInto 18 = .ok (.if_icmp .ge 38, 3) := by decide +kernel
theorem dX9_leastInto_21 : decode cX9_leastInto 21 = .ok (.iload_n 3, 1) := by decide +kernel
theorem dX9_leastInto_22 : decode cX9_leastInto 22 = .ok (.iload 4, 2) := by decide +kernel
theorem dX9_leastInto_24 : decode cX9_leastInto 24 = .ok (.iload_n 1, 1) := by decide +kernel
theorem dX9_leastInto_25 : decode cX9_leastInto 25 = .ok (.invokestatic 82, 3) := by decide +kernel
theorem dX9_leastInto_28 : decode cX9_leastInto 28 = .ok (.ifCond .eq 22, 3) := by decide +kernel
theorem dX9_leastInto_31 : decode cX9_leastInto 31 = .ok (.iload_n 2, 1) := by decide +kernel
theorem dX9_leastInto_32 : decode cX9_leastInto 32 = .ok (.aload_n 0, 1) := by decide +kernel
theorem dX9_leastInto_33 : decode cX9_leastInto 33 = .ok (.getfield 25, 3) := by decide +kernel
theorem dX9_leastInto_36 : decode cX9_leastInto 36 = .ok (.iload_n 3, 1) := by decide +kernel
theorem dX9_leastInto_37 : decode cX9_leastInto 37 = .ok (.iaload, 1) := by decide +kernel
theorem dX9_leastInto_38 : decode cX9_leastInto 38 = .ok (.aload_n 0, 1) := by decide +kernel
theorem dX9_leastInto_39 : decode cX9_leastInto 39 = .ok (.getfield 21, 3) := by decide +kernel
theorem dX9_leastInto_42 : decode cX9_leastInto 42 = .ok (.iload 4, 2) := by decide +kernel
theorem dX9_leastInto_44 : decode cX9_leastInto 44 = .ok (.iaload, 1) := by decide +kernel
theorem dX9_leastInto_45 : decode cX9_leastInto 45 = .ok (.iadd, 1) := by decide +kernel
theorem dX9_leastInto_46 : decode cX9_leastInto 46 = .ok (.invokestatic 67, 3) := by decide +kernel
theorem dX9_leastInto_49 : decode cX9_leastInto 49 = .ok (.istore_n 2, 1) := by decide +kernel
theorem dX9_leastInto_50 : decode cX9_leastInto 50 = .ok (.iinc 4 1, 3) := by decide +kernel
theorem dX9_leastInto_53 : decode cX9_leastInto 53 = .ok (.goto (-39), 3) := by decide +kernel
theorem dX9_leastInto_56 : decode cX9_leastInto 56 = .ok (.iinc 3 1, 3) := by decide +kernel
theorem dX9_leastInto_59 : decode cX9_leastInto 59 = .ok (.goto (-54), 3) := by decide +kernel
theorem dX9_leastInto_62 : decode cX9_leastInto 62 = .ok (.iload_n 2, 1) := by decide +kernel
theorem dX9_leastInto_63 : decode cX9_leastInto 63 = .ok (.ireturn, 1) := by decide +kernel
theorem dX9_fits_0 : decode cX9_fits 0 = .ok (.getstatic 70, 3) := by decide +kernel
theorem dX9_fits_3 : decode cX9_fits 3 = .ok (.iload_n 0, 1) := by decide +kernel
theorem dX9_fits_4 : decode cX9_fits 4 = .ok (.iaload, 1) := by decide +kernel
theorem dX9_fits_5 : decode cX9_fits 5 = .ok (.getstatic 85, 3) := by decide +kernel
theorem dX9_fits_8 : decode cX9_fits 8 = .ok (.iload_n 1, 1) := by decide +kernel
theorem dX9_fits_9 : decode cX9_fits 9 = .ok (.iaload, 1) := by decide +kernel
theorem dX9_fits_10 : decode cX9_fits 10 = .ok (.iadd, 1) := by decide +kernel
theorem dX9_fits_11 : decode cX9_fits 11 = .ok (.istore_n 3, 1) := by decide +kernel
theorem dX9_fits_12 : decode cX9_fits 12 = .ok (.getstatic 73, 3) := by decide +kernel
theorem dX9_fits_15 : decode cX9_fits 15 = .ok (.iload_n 0, 1) := by decide +kernel
theorem dX9_fits_16 : decode cX9_fits 16 = .ok (.iaload, 1) := by decide +kernel
theorem dX9_fits_17 : decode cX9_fits 17 = .ok (.getstatic 88, 3) := by decide +kernel
theorem dX9_fits_20 : decode cX9_fits 20 = .ok (.iload_n 1, 1) := by decide +kernel
theorem dX9_fits_21 : decode cX9_fits 21 = .ok (.iaload, 1) := by decide +kernel
theorem dX9_fits_22 : decode cX9_fits 22 = .ok (.iadd, 1) := by decide +kernel
theorem dX9_fits_23 : decode cX9_fits 23 = .ok (.istore 4, 2) := by decide +kernel
theorem dX9_fits_25 : decode cX9_fits 25 = .ok (.iload_n 3, 1) := by decide +kernel
theorem dX9_fits_26 : decode cX9_fits 26 = .ok (.getstatic 70, 3) := by decide +kernel
theorem dX9_fits_29 : decode cX9_fits 29 = .ok (.iload_n 2, 1) := by decide +kernel
theorem dX9_fits_30 : decode cX9_fits 30 = .ok (.iaload, 1) := by decide +kernel
theorem dX9_fits_31 : decode cX9_fits 31 = .ok (.iadd, 1) := by decide +kernel
theorem dX9_fits_32 : decode cX9_fits 32 = .ok (.iconst 2, 1) := by decide +kernel
theorem dX9_fits_33 : decode cX9_fits 33 = .ok (.irem, 1) := by decide +kernel
theorem dX9_fits_34 : decode cX9_fits 34 = .ok (.ifCond .ne 16, 3) := by decide +kernel
theorem dX9_fits_37 : decode cX9_fits 37 = .ok (.iload 4, 2) := by decide +kernel
theorem dX9_fits_39 : decode cX9_fits 39 = .ok (.getstatic 73, 3) := by decide +kernel
theorem dX9_fits_42 : decode cX9_fits 42 = .ok (.iload_n 2, 1) := by decide +kernel
theorem dX9_fits_43 : decode cX9_fits 43 = .ok (.iaload, 1) := by decide +kernel
theorem dX9_fits_44 : decode cX9_fits 44 = .ok (.iadd, 1) := by decide +kernel
theorem dX9_fits_45 : decode cX9_fits 45 = .ok (.iconst 2, 1) := by decide +kernel
theorem dX9_fits_46 : decode cX9_fits 46 = .ok (.irem, 1) := by decide +kernel
theorem dX9_fits_47 : decode cX9_fits 47 = .ok (.ifCond .eq 5, 3) := by decide +kernel
theorem dX9_fits_50 : decode cX9_fits 50 = .ok (.iconst 0, 1) := by decide +kernel
theorem dX9_fits_51 : decode cX9_fits 51 = .ok (.ireturn, 1) := by decide +kernel
theorem dX9_fits_52 : decode cX9_fits 52 = .ok (.iload_n 3, 1) := by decide +kernel
theorem dX9_fits_53 : decode cX9_fits 53 = .ok (.ifCond .gt 8, 3) := by decide +kernel
theorem dX9_fits_56 : decode cX9_fits 56 = .ok (.iload_n 0, 1) := by decide +kernel
theorem dX9_fits_57 : decode cX9_fits 57 = .ok (.iconst 5, 1) := by decide +kernel
theorem dX9_fits_58 : decode cX9_fits 58 = .ok (.if_icmp .ne 7, 3) := by decide +kernel
theorem dX9_fits_61 : decode cX9_fits 61 = .ok (.iconst 1, 1) := by decide +kernel
theorem dX9_fits_62 : decode cX9_fits 62 = .ok (.goto 4, 3) := by decide +kernel
theorem dX9_fits_65 : decode cX9_fits 65 = .ok (.iconst 0, 1) := by decide +kernel
theorem dX9_fits_66 : decode cX9_fits 66 = .ok (.istore 5, 2) := by decide +kernel
theorem dX9_fits_68 : decode cX9_fits 68 = .ok (.iload 4, 2) := by decide +kernel
theorem dX9_fits_70 : decode cX9_fits 70 = .ok (.ifCond .le 7, 3) := by decide +kernel
theorem dX9_fits_73 : decode cX9_fits 73 = .ok (.iconst 1, 1) := by decide +kernel
theorem dX9_fits_74 : decode cX9_fits 74 = .ok (.goto 4, 3) := by decide +kernel
theorem dX9_fits_77 : decode cX9_fits 77 = .ok (.iconst 0, 1) := by decide +kernel
theorem dX9_fits_78 : decode cX9_fits 78 = .ok (.istore 6, 2) := by decide +kernel
theorem dX9_fits_80 : decode cX9_fits 80 = .ok (.getstatic 70, 3) := by decide +kernel
theorem dX9_fits_83 : decode cX9_fits 83 = .ok (.iload_n 2, 1) := by decide +kernel
theorem dX9_fits_84 : decode cX9_fits 84 = .ok (.iaload, 1) := by decide +kernel
theorem dX9_fits_85 : decode cX9_fits 85 = .ok (.ifCond .le 8, 3) := by decide +kernel
theorem dX9_fits_88 : decode cX9_fits 88 = .ok (.iload 5, 2) := by decide +kernel
theorem dX9_fits_90 : decode cX9_fits 90 = .ok (.ifCond .eq 16, 3) := by decide +kernel
theorem dX9_fits_93 : decode cX9_fits 93 = .ok (.getstatic 73, 3) := by decide +kernel
theorem dX9_fits_96 : decode cX9_fits 96 = .ok (.iload_n 2, 1) := by decide +kernel
theorem dX9_fits_97 : decode cX9_fits 97 = .ok (.iaload, 1) := by decide +kernel
theorem dX9_fits_98 : decode cX9_fits 98 = .ok (.ifCond .le 10, 3) := by decide +kernel
theorem dX9_fits_101 : decode cX9_fits 101 = .ok (.iload 6, 2) := by decide +kernel
theorem dX9_fits_103 : decode cX9_fits 103 = .ok (.ifCond .ne 5, 3) := by decide +kernel
theorem dX9_fits_106 : decode cX9_fits 106 = .ok (.iconst 0, 1) := by decide +kernel
theorem dX9_fits_107 : decode cX9_fits 107 = .ok (.ireturn, 1) := by decide +kernel
theorem dX9_fits_108 : decode cX9_fits 108 = .ok (.iload_n 0, 1) := by decide +kernel
theorem dX9_fits_109 : decode cX9_fits 109 = .ok (.ifCond .eq 17, 3) := by decide +kernel
theorem dX9_fits_112 : decode cX9_fits 112 = .ok (.iload_n 0, 1) := by decide +kernel
theorem dX9_fits_113 : decode cX9_fits 113 = .ok (.iconst 3, 1) := by decide +kernel
theorem dX9_fits_114 : decode cX9_fits 114 = .ok (.if_icmp .eq 12, 3) := by decide +kernel
theorem dX9_fits_117 : decode cX9_fits 117 = .ok (.iload_n 1, 1) := by decide +kernel
theorem dX9_fits_118 : decode cX9_fits 118 = .ok (.ifCond .eq 8, 3) := by decide +kernel
theorem dX9_fits_121 : decode cX9_fits 121 = .ok (.iload_n 1, 1) := by decide +kernel
theorem dX9_fits_122 : decode cX9_fits 122 = .ok (.iconst 1, 1) := by decide +kernel
theorem dX9_fits_123 : decode cX9_fits 123 = .ok (.if_icmp .ne 7, 3) := by decide +kernel
theorem dX9_fits_126 : decode cX9_fits 126 = .ok (.iconst 1, 1) := by decide +kernel
theorem dX9_fits_127 : decode cX9_fits 127 = .ok (.goto 4, 3) := by decide +kernel
theorem dX9_fits_130 : decode cX9_fits 130 = .ok (.iconst 0, 1) := by decide +kernel
theorem dX9_fits_131 : decode cX9_fits 131 = .ok (.istore 7, 2) := by decide +kernel
theorem dX9_fits_133 : decode cX9_fits 133 = .ok (.iload 5, 2) := by decide +kernel
theorem dX9_fits_135 : decode cX9_fits 135 = .ok (.ifCond .eq 17, 3) := by decide +kernel
theorem dX9_fits_138 : decode cX9_fits 138 = .ok (.iload 6, 2) := by decide +kernel
theorem dX9_fits_140 : decode cX9_fits 140 = .ok (.ifCond .eq 12, 3) := by decide +kernel
theorem dX9_fits_143 : decode cX9_fits 143 = .ok (.iload 7, 2) := by decide +kernel
theorem dX9_fits_145 : decode cX9_fits 145 = .ok (.ifCond .ne 7, 3) := by decide +kernel
theorem dX9_fits_148 : decode cX9_fits 148 = .ok (.iconst 1, 1) := by decide +kernel
theorem dX9_fits_149 : decode cX9_fits 149 = .ok (.goto 4, 3) := by decide +kernel
theorem dX9_fits_152 : decode cX9_fits 152 = .ok (.iconst 0, 1) := by decide +kernel
theorem dX9_fits_153 : decode cX9_fits 153 = .ok (.istore 8, 2) := by decide +kernel
theorem dX9_fits_155 : decode cX9_fits 155 = .ok (.iload 8, 2) := by decide +kernel
theorem dX9_fits_157 : decode cX9_fits 157 = .ok (.iload_n 2, 1) := by decide +kernel
theorem dX9_fits_158 : decode cX9_fits 158 = .ok (.iconst 4, 1) := by decide +kernel
theorem dX9_fits_159 : decode cX9_fits 159 = .ok (.if_icmp .ne 7, 3) := by decide +kernel
theorem dX9_fits_162 : decode cX9_fits 162 = .ok (.iconst 1, 1) := by decide +kernel
theorem dX9_fits_163 : decode cX9_fits 163 = .ok (.goto 4, 3) := by decide +kernel
theorem dX9_fits_166 : decode cX9_fits 166 = .ok (.iconst 0, 1) := by decide +kernel
theorem dX9_fits_167 : decode cX9_fits 167 = .ok (.if_icmp .ne 7, 3) := by decide +kernel
theorem dX9_fits_170 : decode cX9_fits 170 = .ok (.iconst 1, 1) := by decide +kernel
theorem dX9_fits_171 : decode cX9_fits 171 = .ok (.goto 4, 3) := by decide +kernel
theorem dX9_fits_174 : decode cX9_fits 174 = .ok (.iconst 0, 1) := by decide +kernel
theorem dX9_fits_175 : decode cX9_fits 175 = .ok (.ireturn, 1) := by decide +kernel
theorem dX10_init_0 : decode cX10_init 0 = .ok (.aload_n 0, 1) := by decide +kernel
theorem dX10_init_1 : decode cX10_init 1 = .ok (.invokespecial 3, 3) := by decide +kernel
theorem dX10_init_4 : decode cX10_init 4 = .ok (.aload_n 0, 1) := by decide +kernel
theorem dX10_init_5 : decode cX10_init 5 = .ok (.iconst (-1), 1) := by decide +kernel
theorem dX10_init_6 : decode cX10_init 6 = .ok (.putfield 9, 3) := by decide +kernel
theorem dX10_init_9 : decode cX10_init 9 = .ok (.aload_n 0, 1) := by decide +kernel
theorem dX10_init_10 : decode cX10_init 10 = .ok (.aload_n 1, 1) := by decide +kernel
theorem dX10_init_11 : decode cX10_init 11 = .ok (.putfield 15, 3) := by decide +kernel
theorem dX10_init_14 : decode cX10_init 14 = .ok (.aload_n 0, 1) := by decide +kernel
theorem dX10_init_15 : decode cX10_init 15 = .ok (.iload_n 2, 1) := by decide +kernel
theorem dX10_init_16 : decode cX10_init 16 = .ok (.putfield 19, 3) := by decide +kernel
theorem dX10_init_19 : decode cX10_init 19 = .ok (.aload_n 0, 1) := by decide +kernel
theorem dX10_init_20 : decode cX10_init 20 = .ok (.iload_n 3, 1) := by decide +kernel
theorem dX10_init_21 : decode cX10_init 21 = .ok (.putfield 22, 3) := by decide +kernel
theorem dX10_init_24 : decode cX10_init 24 = .ok (.return_, 1) := by decide +kernel
theorem dX10_left_0 : decode cX10_left 0 = .ok (.aload_n 0, 1) := by decide +kernel
theorem dX10_left_1 : decode cX10_left 1 = .ok (.getfield 19, 3) := by decide +kernel
theorem dX10_left_4 : decode cX10_left 4 = .ok (.aload_n 0, 1) := by decide +kernel
theorem dX10_left_5 : decode cX10_left 5 = .ok (.getfield 25, 3) := by decide +kernel
theorem dX10_left_8 : decode cX10_left 8 = .ok (.isub, 1) := by decide +kernel
theorem dX10_left_9 : decode cX10_left 9 = .ok (.aload_n 0, 1) := by decide +kernel
theorem dX10_left_10 : decode cX10_left 10 = .ok (.getfield 28, 3) := by decide +kernel
theorem dX10_left_13 : decode cX10_left 13 = .ok (.isub, 1) := by decide +kernel
theorem dX10_left_14 : decode cX10_left 14 = .ok (.aload_n 0, 1) := by decide +kernel
theorem dX10_left_15 : decode cX10_left 15 = .ok (.getfield 31, 3) := by decide +kernel
theorem dX10_left_18 : decode cX10_left 18 = .ok (.isub, 1) := by decide +kernel
theorem dX10_left_19 : decode cX10_left 19 = .ok (.ireturn, 1) := by decide +kernel
theorem dX10_piecesOut_0 : decode cX10_piecesOut 0 = .ok (.aload_n 0, 1) := by decide +kernel
theorem dX10_piecesOut_1 : decode cX10_piecesOut 1 = .ok (.getfield 25, 3) := by decide +kernel
theorem dX10_piecesOut_4 : decode cX10_piecesOut 4 = .ok (.aload_n 0, 1) := by decide +kernel
theorem dX10_piecesOut_5 : decode cX10_piecesOut 5 = .ok (.getfield 28, 3) := by decide +kernel
theorem dX10_piecesOut_8 : decode cX10_piecesOut 8 = .ok (.iadd, 1) := by decide +kernel
theorem dX10_piecesOut_9 : decode cX10_piecesOut 9 = .ok (.aload_n 0, 1) := by decide +kernel
