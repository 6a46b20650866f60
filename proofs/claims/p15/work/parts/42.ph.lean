set_option maxHeartbeats 4000000 in
set_option maxRecDepth 100000 in
/-- sending -/
theorem c_sending (l : Launch) (hl0 : l.stackTraces = false) (D : va_G) (A : Nat → Prop) (sad : Nat → Nat) (τ : zTy) (fi : zFi) (fr : zFr) (ol : Int64) (x y : Int32) (hF : zFix τ fr) (sn : Nat) (hSn : zSn τ fi fr sn) : vx_Met l yX11_sending wsX11_sending ({ frames := 6, cells := 1, slots := 6, locals := 82 }) (va_Pc [.ref (τ.1 0), .int x, .int y] (zQc D A sad τ fi fr ol)) (va_Qi (fun (r : Int32) (u : Unit) => True) (fun (u : Unit) (t : State) => zH D A τ fi fr ol t t.heap) A) (vx_X (fun u : Unit => True) (fun (E : String) (u : Unit) (t : State) => (E = "java/lang/IndexOutOfBoundsException" ∨ E = "java/util/NoSuchElementException") ∧ zH D A τ fi fr ol t t.heap) A) 1 6 A := by
  refine vx_ofW (cc := cX11_sending) (maxL := 4) (ret := (some .int)) (by decide) rfl ?_
  intro p9 e9 s m args below meth c9 s₁ B hml ht0 hv
  obtain ⟨rfl, hz, hH, hA⟩ := hv
  have hx := B.exec
  have hb := B.bytes
  have hr := B.returns
  have hts := atoms_spec (ws := wsX11_sending) B.pre
  have hown : s.vm.findClass RX11 = some m.cls := findClass_of_methodNamed B.named
  have hlocks := B.notSynchronized
  have hS : va_S A s.heap s.heap [] := va_S.rf
  have hl := lv_entry ([.ref (τ.1 0), .int x, .int y]) (n := 4) (Nat.le_of_ble_eq_true rfl)
  rw [lg_entry_eq]
  generalize (lg_sl ([.ref (τ.1 0), .int x, .int y]) ++ List.replicate (4 - (lg_sl ([.ref (τ.1 0), .int x, .int y])).length) Slot.unset).toArray = ls at hl ⊢
  have hl : lv_has ls 4 [(0, .ref (τ.1 0)), (1, .int x), (2, .int y)] := hl
  have hs300 := hSn.1
  have hiX11 : ∀ w ∈ u_ws RX11 TX11 16, w ∈ wsX11_sending := fun _ h => List.mem_cons_of_mem _ (List.mem_append_left _ (List.mem_append_left _ (List.mem_append_left _ (List.mem_append_right _ h))))
  have hw1 := hts (.fieldLink RX11 319 "PostHouse" "sendingCount" "I") (by decide +kernel)
  have hw2 := hts (.fieldLink RX11 54 "PostHouse" "sendings" "[LPostHouse$Sending;") (by decide +kernel)
  have hiX6 : ∀ w ∈ u_ws RX6 TX6 4, w ∈ wsX11_sending := fun _ h => List.mem_cons_of_mem _ (List.mem_append_left _ (List.mem_append_left _ (List.mem_append_right _ h)))
  have hw4 := hts (.fieldLink RX11 327 "PostHouse$Sending" "order" "I") (by decide +kernel)
  have hw5 := hts (.fieldLink RX11 330 "PostHouse$Sending" "day" "I") (by decide +kernel)
  have hw6 := hts (.fieldLink RX11 331 "PostHouse$Sending" "pieces" "I") (by decide +kernel)
  have hw7 := hts (.fieldLink RX11 334 "PostHouse$Sending" "parcels" "I") (by decide +kernel)
  have hw8 := hts (.classLink RX11 169 "java/util/NoSuchElementException") (by decide +kernel)
  have hw9 := hts (.initialized "java/util/NoSuchElementException") (by decide +kernel)
  have hw10 := hts (.classLink RX11 322 "java/lang/IndexOutOfBoundsException") (by decide +kernel)
  have hw11 := hts (.initialized "java/lang/IndexOutOfBoundsException") (by decide +kernel)
  refine lv_iload_n hx hb dX11_sending_0 rfl (lv_at hl 1 rfl) ?_
  refine lv_iconst (v := nI 0) hx hb dX11_sending_1 (by decide) ?_
  refine lv_aload_n hx hb dX11_sending_2 rfl (lv_at hl 0 rfl) ?_
  refine zGetI (D := D) (ci := 11) (C := RX11) (T := TX11) (N := 16) hx hb hts hiX11 hown hH (zk_0 hF) rfl 12 (by decide) rfl hw1 (fun _ h9 => h9) dX11_sending_3 hSn.2.1 ?_
  refine lv_iconst (v := nI 1) hx hb dX11_sending_6 (by decide) ?_
  refine lv_isub hx hb dX11_sending_7 ?_
  refine lv_topi (fun v101 ev101 => ?_)
  have iv101 : v101.toInt = ((sn : Nat) : Int) - ((1 : Nat) : Int) := by rw [ev101]; exact pk_sub_toInt (by omega) (by omega)
  refine va_calli (va_runS (As := [.int x, .int (nI 0), .int v101]) (rest := []) ⟨hx, hb, hml, hown, hts⟩ (c_within l hl0 D A sad τ fi fr ol x (nI 0) v101) (cwS 3 hts gX11_sending_X11_within rfl rfl rfl (by decide +kernel) ⟨Nat.le_of_ble_eq_true rfl, Nat.le_of_ble_eq_true rfl⟩) ⟨zQc_bl, zQc_at hz hS hA hH⟩ rfl rfl hl.1 rfl (lv_room (Nat.le_of_ble_eq_true rfl)) dX11_sending_8 ⟨Nat.le_of_ble_eq_true rfl, Nat.le_of_ble_eq_true rfl⟩) hS (fun q _ h => h) (fun q h => h) (fun r102 u9 t9 H1 locs ht9 hvm9 hw hB hz1 hk1 hS => ?_)
  have hH := zMv ht9 hvm9 hB
  generalize H1 = H at hH hS ⊢
  rcases hw with ⟨rfl, hy103⟩ | ⟨rfl, hn104⟩
  · skip
    replace hy103 := zWi1 (rfl) (nI_toInt (by omega)) (iv101) hy103
    refine lv_if_ne (tgt := 25) hx hb dX11_sending_11 (by decide) (fun c105 => ?_) (fun c105 => absurd c105 (by decide))
    refine lv_aload_n hx hb dX11_sending_25 rfl (lv_at hl 0 rfl) ?_
    refine zGetR (D := D) (ci := 11) (C := RX11) (T := TX11) (N := 16) hx hb hts hiX11 hown hH (zk_0 hF) rfl 7 (by decide) rfl hw2 (fun _ h9 => h9) dX11_sending_26 (zr_0_7 hF) ?_
    refine lv_iload_n hx hb dX11_sending_29 rfl (lv_at hl 1 rfl) ?_
    obtain ⟨q, hq, rfl⟩ : ∃ q : Nat, q < sn ∧ x = nI q := zNatB (by omega) (by omega)
    refine zAaldS (D := D) hx hb hH (zk_17 hF) (by decide) (by decide) rfl (zn_17 hF) (by omega) (by omega) (hSn.2.2.1 q (by omega)).2 dX11_sending_30 ?_
    refine lv_astore_n (lv' := [(3, .ref (τ.1 (2000 + q))), (0, .ref (τ.1 0)), (1, .int (nI q)), (2, .int y)]) hx hb dX11_sending_31 rfl hl (by decide) rfl (fun ls hl => ?_)
    refine lv_iload_n hx hb dX11_sending_32 rfl (lv_at hl 3 rfl) ?_
    rcases zCase3 y with c106 | c106 | c106 | c106 | c106
    · subst c106
      refine lv_tableIn (tgt := 64) (off := 31) hx hb dX11_sending_33 (by decide) (by decide) rfl (by decide) ?_
      refine lv_aload_n hx hb dX11_sending_64 rfl (lv_at hl 0 rfl) ?_
      refine zGetI (D := D) (ci := 6) (C := RX6) (T := TX6) (N := 4) hx hb hts hiX6 hown hH (hSn.2.2.1 q (by omega)).1 rfl 0 (by decide) rfl hw4 (fun _ h9 => h9) dX11_sending_65 rfl ?_
      refine W.widen (k := 1) (n := 6) (by decide) (by decide) ?_
      refine vx_ret ?_
      exact W.iret (v := fi (2000 + q) 0) hx hb hr (fun t9 ht9 hW9 => ⟨⟨fi (2000 + q) 0, (), rfl, trivial, zEnd1 hH ht9 hW9⟩, hS.F ht9⟩) hS.2.2 dX11_sending_68
    · subst c106
      refine lv_tableIn (tgt := 69) (off := 36) hx hb dX11_sending_33 (by decide) (by decide) rfl (by decide) ?_
      refine lv_aload_n hx hb dX11_sending_69 rfl (lv_at hl 0 rfl) ?_
      refine zGetI (D := D) (ci := 6) (C := RX6) (T := TX6) (N := 4) hx hb hts hiX6 hown hH (hSn.2.2.1 q (by omega)).1 rfl 1 (by decide) rfl hw5 (fun _ h9 => h9) dX11_sending_70 rfl ?_
      refine W.widen (k := 1) (n := 6) (by decide) (by decide) ?_
      refine vx_ret ?_
      exact W.iret (v := fi (2000 + q) 1) hx hb hr (fun t9 ht9 hW9 => ⟨⟨fi (2000 + q) 1, (), rfl, trivial, zEnd1 hH ht9 hW9⟩, hS.F ht9⟩) hS.2.2 dX11_sending_73
    · subst c106
      refine lv_tableIn (tgt := 74) (off := 41) hx hb dX11_sending_33 (by decide) (by decide) rfl (by decide) ?_
      refine lv_aload_n hx hb dX11_sending_74 rfl (lv_at hl 0 rfl) ?_
      refine zGetI (D := D) (ci := 6) (C := RX6) (T := TX6) (N := 4) hx hb hts hiX6 hown hH (hSn.2.2.1 q (by omega)).1 rfl 2 (by decide) rfl hw6 (fun _ h9 => h9) dX11_sending_75 rfl ?_
      refine W.widen (k := 1) (n := 6) (by decide) (by decide) ?_
      refine vx_ret ?_
      exact W.iret (v := fi (2000 + q) 2) hx hb hr (fun t9 ht9 hW9 => ⟨⟨fi (2000 + q) 2, (), rfl, trivial, zEnd1 hH ht9 hW9⟩, hS.F ht9⟩) hS.2.2 dX11_sending_78
    · subst c106
      refine lv_tableIn (tgt := 79) (off := 46) hx hb dX11_sending_33 (by decide) (by decide) rfl (by decide) ?_
      refine lv_aload_n hx hb dX11_sending_79 rfl (lv_at hl 0 rfl) ?_
      refine zGetI (D := D) (ci := 6) (C := RX6) (T := TX6) (N := 4) hx hb hts hiX6 hown hH (hSn.2.2.1 q (by omega)).1 rfl 3 (by decide) rfl hw7 (fun _ h9 => h9) dX11_sending_80 rfl ?_
      refine W.widen (k := 1) (n := 6) (by decide) (by decide) ?_
      refine vx_ret ?_
      exact W.iret (v := fi (2000 + q) 3) hx hb hr (fun t9 ht9 hW9 => ⟨⟨fi (2000 + q) 3, (), rfl, trivial, zEnd1 hH ht9 hW9⟩, hS.F ht9⟩) hS.2.2 dX11_sending_83
    · refine lv_tableOut (tgt := 84) hx hb dX11_sending_33 c106 (by decide) ?_
      obtain ⟨a107, ha107⟩ := hz.1.2.2.2.2.1 _ (List.mem_of_getElem? (i := 18) rfl)
      have hat : ∀ w ∈ zAtN RX11 173, w.before _ s = true := vx_hat (fun w h => hts w (List.mem_cons_of_mem _ (List.mem_append_right _ h))) (B := [.castable "java/util/NoSuchElementException" "java/util/NoSuchElementException", .declares (Bundle.initS "java/lang/RuntimeException"), .declares (Bundle.initS "java/lang/Exception"), .declares (Bundle.initS Bundle.tN)]) (by decide +kernel) (vx_c (va_Nw.use rfl (hz.1.2.2.2.2.2.2.2.1 _ (List.mem_of_getElem? (i := 3) rfl))) (vx_c (va_Nw.use rfl (hz.1.2.2.2.2.2.2.2.2 _ (List.mem_of_getElem? (i := 0) rfl))) (vx_c (va_Nw.use rfl (hz.1.2.2.2.2.2.2.2.2 _ (List.mem_of_getElem? (i := 1) rfl))) (vx_c (va_Nw.use rfl (hz.1.2.2.2.2.2.2.2.2 _ (List.mem_of_getElem? (i := 2) rfl))) vx_n))))
      exact zThrowNW hx hb hl0 (own := RX11) (text := "a sending has nothing else") hown hw8 hw9 ha107 hat (by decide +kernel) hz.1.1 hz.1.2.1 hS (by rw [hml]; exact hl.1) dX11_sending_84 dX11_sending_87 dX11_sending_88 dX11_sending_91 dX11_sending_94 (fun x h9 => (ht0 x h9).elim) (Nat.le_of_ble_eq_true rfl) (Nat.le_of_ble_eq_true rfl) (Nat.le_of_ble_eq_true rfl) (Nat.le_of_ble_eq_true rfl) hlocks (fun t9 hvm9 h91 h92 => ⟨(), trivial, ⟨Or.inr rfl, zThr hH hvm9 h92⟩, zF2 hS h91 h92⟩) hS.2.2 (by decide) (by decide)
  · skip
    replace hn104 := zWi0 (rfl) (nI_toInt (by omega)) (iv101) hn104
    refine lv_if_ne (tgt := 25) hx hb dX11_sending_11 (by decide) (fun c108 => absurd (by decide) c108) (fun c108 => ?_)
    obtain ⟨a109, ha109⟩ := hz.1.2.2.2.2.1 _ (List.mem_of_getElem? (i := 17) rfl)
    have hat : ∀ w ∈ vx_atS RX11 326 "java/lang/IndexOutOfBoundsException" ["java/lang/RuntimeException", "java/lang/Exception"], w.before _ s = true := vx_hat (fun w h => hts w (List.mem_cons_of_mem _ (List.mem_append_left _ (List.mem_append_right _ h)))) (B := [.castable "java/lang/IndexOutOfBoundsException" "java/lang/IndexOutOfBoundsException", .declares (Bundle.initS "java/lang/RuntimeException"), .declares (Bundle.initS "java/lang/Exception"), .declares (Bundle.initS Bundle.tN)]) (by decide +kernel) (vx_c (va_Nw.use rfl (hz.1.2.2.2.2.2.2.2.1 _ (List.mem_of_getElem? (i := 0) rfl))) (vx_c (va_Nw.use rfl (hz.1.2.2.2.2.2.2.2.2 _ (List.mem_of_getElem? (i := 0) rfl))) (vx_c (va_Nw.use rfl (hz.1.2.2.2.2.2.2.2.2 _ (List.mem_of_getElem? (i := 1) rfl))) (vx_c (va_Nw.use rfl (hz.1.2.2.2.2.2.2.2.2 _ (List.mem_of_getElem? (i := 2) rfl))) vx_n))))
    exact vx_throwSW hx hb hl0 (own := RX11) (cls := "java/lang/IndexOutOfBoundsException") (text := "no such sending") (names := ["java/lang/RuntimeException", "java/lang/Exception"]) hown (by decide +kernel) (by decide +kernel) hw10 hw11 ha109 hat (by decide +kernel) hz.1.1 hz.1.2.1 hS (by rw [hml]; exact hl.1) dX11_sending_14 dX11_sending_17 dX11_sending_18 dX11_sending_21 dX11_sending_24 (fun x h9 => (ht0 x h9).elim) (Nat.le_of_ble_eq_true rfl) (Nat.le_of_ble_eq_true rfl) (Nat.le_of_ble_eq_true rfl) (Nat.le_of_ble_eq_true rfl) hlocks (fun t9 hvm9 h91 h92 => ⟨(), trivial, ⟨Or.inl rfl, zThr hH hvm9 h92⟩, zF2 hS h91 h92⟩) hS.2.2 (by decide) (by decide)
set_option maxHeartbeats 4000000 in
set_option maxRecDepth 100000 in
/-- roundedUp -/
theorem c_roundedUp (l : Launch) (hl0 : l.stackTraces = false) (D : va_G) (A : Nat → Prop) (sad : Nat → Nat) (τ : zTy) (fi : zFi) (fr : zFr) (ol : Int64) (x y : Int32) : Met l yX11_roundedUp wsX11_roundedUp ({ frames := 0, cells := 0, slots := 0, locals := 0 }) (va_Pc [.int x, .int y] (zQc D A sad τ fi fr ol)) (va_Qi (fun (r : Int32) (u : Unit) => True) (fun (u : Unit) (t : State) => zH D A τ fi fr ol t t.heap) A) 0 0 A := by
  refine Met.ofW (cc := cX11_roundedUp) (maxL := 2) (ret := (some .int)) (by decide) rfl ?_
  intro p9 e9 s m args below meth c9 s₁ B hml hv
  obtain ⟨rfl, hz, hH, hA⟩ := hv
  have hx := B.exec
  have hb := B.bytes
  have hr := B.returns
  have hts := atoms_spec (ws := wsX11_roundedUp) B.pre
  have hown : s.vm.findClass RX11 = some m.cls := findClass_of_methodNamed B.named
  have hlocks := B.notSynchronized
  have hS : va_S A s.heap s.heap [] := va_S.rf
  have hl := lv_entry ([.int x, .int y]) (n := 2) (Nat.le_of_ble_eq_true rfl)
  rw [lg_entry_eq]
  generalize (lg_sl ([.int x, .int y]) ++ List.replicate (2 - (lg_sl ([.int x, .int y])).length) Slot.unset).toArray = ls at hl ⊢
  have hl : lv_has ls 2 [(0, .int x), (1, .int y)] := hl
  refine lv_iload_n hx hb dX11_roundedUp_0 rfl (lv_at hl 1 rfl) ?_
  refine lv_iconst (v := nI 1) hx hb dX11_roundedUp_1 (by decide) ?_
  refine lv_icmp_ge (tgt := 9) hx hb dX11_roundedUp_2 (by decide) (fun c101 => ?_) (fun c101 => ?_)
  · have zc101 := c101
    replace zc101 := zc_le (nI_toInt (by omega)) (rfl) zc101
    refine lv_iload_n hx hb dX11_roundedUp_9 rfl (lv_at hl 0 rfl) ?_
    refine lv_iload_n hx hb dX11_roundedUp_10 rfl (lv_at hl 1 rfl) ?_
    refine lv_iadd hx hb dX11_roundedUp_11 ?_
    refine lv_topi (fun v102 ev102 => ?_)
    refine lv_iconst (v := nI 1) hx hb dX11_roundedUp_12 (by decide) ?_
    refine lv_isub hx hb dX11_roundedUp_13 ?_
    refine lv_topi (fun v103 ev103 => ?_)
    refine lv_iload_n hx hb dX11_roundedUp_14 rfl (lv_at hl 1 rfl) ?_
    refine lv_idiv hx hb dX11_roundedUp_15 (fun h9 => by have h8 := zc101; rw [h9] at h8; exact absurd h8 (by decide)) ?_
    refine lv_topi (fun v104 ev104 => ?_)
    refine W.widen (k := 0) (n := 0) (by decide) (by decide) ?_
    exact W.iret (v := v104) hx hb hr (fun t9 ht9 hW9 => ⟨⟨v104, (), rfl, trivial, zEnd1 hH ht9 hW9⟩, hS.F ht9⟩) hS.2.2 dX11_roundedUp_16
  · have zc101 := c101
    replace zc101 := zc_nle (nI_toInt (by omega)) (rfl) zc101
    refine lv_iconst (v := nI 0) hx hb dX11_roundedUp_5 (by decide) ?_
    refine lv_goto (tgt := 16) hx hb dX11_roundedUp_6 (by decide) ?_
    refine W.widen (k := 0) (n := 0) (by decide) (by decide) ?_
    exact W.iret (v := nI 0) hx hb hr (fun t9 ht9 hW9 => ⟨⟨nI 0, (), rfl, trivial, zEnd1 hH ht9 hW9⟩, hS.F ht9⟩) hS.2.2 dX11_roundedUp_16
set_option maxHeartbeats 4000000 in
set_option maxRecDepth 100000 in
/-- salesOf -/
theorem c_salesOf (l : Launch) (hl0 : l.stackTraces = false) (D : va_G) (A : Nat → Prop) (sad : Nat → Nat) (τ : zTy) (fi : zFi) (fr : zFr) (ol : Int64) (x : Int32) (hF : zFix τ fr) (n o : Nat) (hO : zOr τ fi fr n o) (t : Nat) (ht : t < n) : Met l yX11_salesOf wsX11_salesOf ({ frames := 1, cells := 0, slots := 0, locals := 23 }) (va_Pc [.ref (τ.1 0), .ref (τ.1 (300 + t)), .int x] (zQc D A sad τ fi fr ol)) (va_Qi (fun (r : Int32) (u : Unit) => True) (fun (u : Unit) (t : State) => zH D A τ fi fr ol t t.heap) A) 0 0 A := by
  refine Met.ofW (cc := cX11_salesOf) (maxL := 5) (ret := (some .int)) (by decide) rfl ?_
  intro p9 e9 s m args below meth c9 s₁ B hml hv
  obtain ⟨rfl, hz, hH, hA⟩ := hv
  have hx := B.exec
  have hb := B.bytes
  have hr := B.returns
  have hts := atoms_spec (ws := wsX11_salesOf) B.pre
  have hown : s.vm.findClass RX11 = some m.cls := findClass_of_methodNamed B.named
  have hlocks := B.notSynchronized
  have hS : va_S A s.heap s.heap [] := va_S.rf
  have hl := lv_entry ([.ref (τ.1 0), .ref (τ.1 (300 + t)), .int x]) (n := 5) (Nat.le_of_ble_eq_true rfl)
  rw [lg_entry_eq]
  generalize (lg_sl ([.ref (τ.1 0), .ref (τ.1 (300 + t)), .int x]) ++ List.replicate (5 - (lg_sl ([.ref (τ.1 0), .ref (τ.1 (300 + t)), .int x])).length) Slot.unset).toArray = ls at hl ⊢
  have hl : lv_has ls 5 [(0, .ref (τ.1 0)), (1, .ref (τ.1 (300 + t))), (2, .int x)] := hl
  have ho60 := hO.1
  have hiX11 : ∀ w ∈ u_ws RX11 TX11 16, w ∈ wsX11_salesOf := fun _ h => List.mem_cons_of_mem _ (List.mem_append_left _ (List.mem_append_left _ (List.mem_append_right _ h)))
  have hw1 := hts (.fieldLink RX11 366 "PostHouse" "orderCount" "I") (by decide +kernel)
  have hw2 := hts (.fieldLink RX11 48 "PostHouse" "orders" "[LPostHouse$Order;") (by decide +kernel)
  have hiX3 : ∀ w ∈ u_ws RX3 TX3 6, w ∈ wsX11_salesOf := fun _ h => List.mem_cons_of_mem _ (List.mem_append_left _ (List.mem_append_right _ h))
  have hw4 := hts (.fieldLink RX11 256 "PostHouse$Order" "day" "I") (by decide +kernel)
  refine lv_iconst (v := nI 0) hx hb dX11_salesOf_0 (by decide) ?_
  refine lv_istore_n (lv' := [(3, .int (nI 0)), (0, .ref (τ.1 0)), (1, .ref (τ.1 (300 + t))), (2, .int x)]) hx hb dX11_salesOf_1 rfl hl (by decide) rfl (fun ls hl => ?_)
  refine lv_iconst (v := nI 0) hx hb dX11_salesOf_2 (by decide) ?_
  refine lv_istore (lv' := [(4, .int (nI 0)), (3, .int (nI 0)), (0, .ref (τ.1 0)), (1, .ref (τ.1 (300 + t))), (2, .int x)]) hx hb dX11_salesOf_3 hl (by decide) rfl (fun ls hl => ?_)
  refine zLp (σ := Nat × Int32) (fun x9 k9 H locs ls => (fun (i : Nat) (y : Int32) => k9 = o - i ∧ (i ≤ o) ∧ zH D A τ fi fr ol s H ∧ va_S A s.heap H locs ∧ lv_has ls 5 [(0, .ref (τ.1 0)), (1, .ref (τ.1 (300 + t))), (2, .int x), (3, .int y), (4, .int (nI i))]) x9.1 x9.2) (0, nI 0) (o - 0) (show o - 0 = o - 0 ∧ (0 ≤ o) ∧ zH D A τ fi fr ol s _ ∧ va_S A s.heap _ _ ∧ lv_has _ 5 [(0, .ref (τ.1 0)), (1, .ref (τ.1 (300 + t))), (2, .int x), (3, .int (nI 0)), (4, .int (nI 0))] from ⟨rfl, Nat.zero_le _, hH, hS, lv_sub hl [2, 3, 4, 1, 0] rfl⟩) (fun k9 ih x9 H locs ls hv9 => ?_)
  obtain ⟨i, y⟩ := x9
  have hv9 : k9 = o - i ∧ (i ≤ o) ∧ zH D A τ fi fr ol s H ∧ va_S A s.heap H locs ∧ lv_has ls 5 [(0, .ref (τ.1 0)), (1, .ref (τ.1 (300 + t))), (2, .int x), (3, .int y), (4, .int (nI i))] := hv9
  obtain ⟨hkih101, hv9, hH, hS, hl⟩ := hv9
  obtain h1 := hv9
  have ih101 := ih
  clear ih
  refine lv_iload hx hb dX11_salesOf_5 (lv_at hl 4 rfl) ?_
  refine lv_aload_n hx hb dX11_salesOf_7 rfl (lv_at hl 0 rfl) ?_
  refine zGetI (D := D) (ci := 11) (C := RX11) (T := TX11) (N := 16) hx hb hts hiX11 hown hH (zk_0 hF) rfl 11 (by decide) rfl hw1 (fun _ h9 => h9) dX11_salesOf_8 hO.2.1 ?_
  refine lv_icmp_ge (tgt := 57) hx hb dX11_salesOf_11 (by decide) (fun c102 => ?_) (fun c102 => ?_)
  · have zc102 := c102
    replace zc102 := zc_le (nI_toInt (by omega)) (nI_toInt (by omega)) zc102
    refine lv_iload_n hx hb dX11_salesOf_57 rfl (lv_at hl 3 rfl) ?_
    refine W.widen (k := 0) (n := 0) (by decide) (by decide) ?_
    exact W.iret (v := y) hx hb hr (fun t9 ht9 hW9 => ⟨⟨y, (), rfl, trivial, zEnd1 hH ht9 hW9⟩, hS.F ht9⟩) hS.2.2 dX11_salesOf_58
  · have zc102 := c102
    replace zc102 := zc_nle (nI_toInt (by omega)) (nI_toInt (by omega)) zc102
    refine lv_aload_n hx hb dX11_salesOf_14 rfl (lv_at hl 0 rfl) ?_
    refine zGetR (D := D) (ci := 11) (C := RX11) (T := TX11) (N := 16) hx hb hts hiX11 hown hH (zk_0 hF) rfl 6 (by decide) rfl hw2 (fun _ h9 => h9) dX11_salesOf_15 (zr_0_6 hF) ?_
    refine lv_iload hx hb dX11_salesOf_18 (lv_at hl 4 rfl) ?_
    refine zAaldS (D := D) hx hb hH (zk_16 hF) (by decide) (by decide) rfl (zn_16 hF) (by omega) (by omega) (hO.2.2.1 i (by omega)).2.1.1 dX11_salesOf_20 ?_
    refine zGetI (D := D) (ci := 3) (C := RX3) (T := TX3) (N := 6) hx hb hts hiX3 hown hH (hO.2.2.1 i (by omega)).1.1 rfl 0 (by decide) rfl hw4 (fun _ h9 => h9) dX11_salesOf_21 rfl ?_
    refine lv_iload_n hx hb dX11_salesOf_24 rfl (lv_at hl 2 rfl) ?_
    refine lv_iload_n hx hb dX11_salesOf_25 rfl (lv_at hl 2 rfl) ?_
    refine lv_bipush (v := nI 14) hx hb dX11_salesOf_26 (by decide) ?_
    refine lv_iadd hx hb dX11_salesOf_28 ?_
    refine lv_topi (fun v103 ev103 => ?_)
    refine lv_iconst (v := nI 1) hx hb dX11_salesOf_29 (by decide) ?_
    refine lv_isub hx hb dX11_salesOf_30 ?_
    refine lv_topi (fun v104 ev104 => ?_)
    refine va_calli (va_runS (As := [.int (fi (500 + i) 0), .int x, .int v104]) (rest := []) ⟨hx, hb, hml, hown, hts⟩ (c_within l hl0 D A sad τ fi fr ol (fi (500 + i) 0) x v104) (cwS 3 hts gX11_salesOf_X11_within rfl rfl rfl (by decide +kernel) ⟨Nat.le_of_ble_eq_true rfl, Nat.le_of_ble_eq_true rfl⟩) ⟨zQc_bl, zQc_at hz hS hA hH⟩ rfl rfl hl.1 rfl (lv_room (Nat.le_of_ble_eq_true rfl)) dX11_salesOf_31 ⟨Nat.le_of_ble_eq_true rfl, Nat.le_of_ble_eq_true rfl⟩) hS (fun q _ h => h) (fun q h => h) (fun r105 u9 t9 H1 locs ht9 hvm9 hw hB hz1 hk1 hS => ?_)
    have hH := zMv ht9 hvm9 hB
    generalize H1 = H at hH hS ⊢
    refine lv_if_eq (tgt := 51) hx hb dX11_salesOf_34 (by decide) (fun c106 => ?_) (fun c106 => ?_)
    · have zc106 := c106
      replace zc106 := zc_eq (rfl) ((by decide : (0 : Int32).toInt = 0)) zc106
      refine lv_iinc (v := nI (i + 1)) (lv' := [(4, .int (nI (i + 1))), (0, .ref (τ.1 0)), (1, .ref (τ.1 (300 + t))), (2, .int x), (3, .int y)]) hx hb dX11_salesOf_51 hl (k := 4) rfl (by rw [show (Int32.ofInt 1 : Int32) = nI 1 from by decide, nI_add]) (by decide) rfl (fun ls hl => ?_)
      refine lv_goto (tgt := 5) hx hb dX11_salesOf_54 (by decide) ?_
      exact ih101 (o - (i + 1)) (by omega) (i + 1, _) _ _ _ (show o - (i + 1) = o - (i + 1) ∧ ((i + 1) ≤ o) ∧ zH D A τ fi fr ol s _ ∧ va_S A s.heap _ _ ∧ lv_has _ 5 [(0, .ref (τ.1 0)), (1, .ref (τ.1 (300 + t))), (2, .int x), (3, .int _), (4, .int (nI (i + 1)))] from ⟨rfl, (by omega), hH, hS, lv_sub hl [1, 2, 3, 4, 0] rfl⟩)
    · have zc106 := c106
      replace zc106 := zc_neq (rfl) ((by decide : (0 : Int32).toInt = 0)) zc106
      refine lv_iload_n hx hb dX11_salesOf_37 rfl (lv_at hl 3 rfl) ?_
      refine lv_aload_n hx hb dX11_salesOf_38 rfl (lv_at hl 0 rfl) ?_
      refine zGetR (D := D) (ci := 11) (C := RX11) (T := TX11) (N := 16) hx hb hts hiX11 hown hH (zk_0 hF) rfl 6 (by decide) rfl hw2 (fun _ h9 => h9) dX11_salesOf_39 (zr_0_6 hF) ?_
      refine lv_iload hx hb dX11_salesOf_42 (lv_at hl 4 rfl) ?_
      refine zAaldS (D := D) hx hb hH (zk_16 hF) (by decide) (by decide) rfl (zn_16 hF) (by omega) (by omega) (hO.2.2.1 i (by omega)).2.1.1 dX11_salesOf_44 ?_
      refine lv_aload_n hx hb dX11_salesOf_45 rfl (lv_at hl 1 rfl) ?_
      refine va_calli (va_runV (As := [.ref (τ.1 (300 + t))]) (rest := [.int y]) ⟨hx, hb, hml, hown, hts⟩ (c_manyOf l hl0 D A sad τ fi fr ol n o hO i (by omega) t ht) (cwV 1 hts gX11_salesOf_X3_manyOf rfl rfl rfl (by decide +kernel) ⟨Nat.le_of_ble_eq_true rfl, Nat.le_of_ble_eq_true rfl⟩) ⟨zQc_bl, zRecv hH (hO.2.2.1 i (by omega)).1.1 rfl, zQc_at hz hS hA hH⟩ rfl rfl hl.1 rfl (lv_room (Nat.le_of_ble_eq_true rfl)) dX11_salesOf_46 ⟨Nat.le_of_ble_eq_true rfl, Nat.le_of_ble_eq_true rfl⟩) hS (fun q _ h => h) (fun q h => h) (fun r107 u9 t9 H1 locs ht9 hvm9 hw hB hz1 hk1 hS => ?_)
      have hH := zMv ht9 hvm9 hB
      generalize H1 = H at hH hS ⊢
      refine lv_iadd hx hb dX11_salesOf_49 ?_
      refine lv_topi (fun v108 ev108 => ?_)
      refine lv_istore_n (lv' := [(3, .int v108), (0, .ref (τ.1 0)), (1, .ref (τ.1 (300 + t))), (2, .int x), (4, .int (nI i))]) hx hb dX11_salesOf_50 rfl hl (by decide) rfl (fun ls hl => ?_)
      refine lv_iinc (v := nI (i + 1)) (lv' := [(4, .int (nI (i + 1))), (3, .int v108), (0, .ref (τ.1 0)), (1, .ref (τ.1 (300 + t))), (2, .int x)]) hx hb dX11_salesOf_51 hl (k := 4) rfl (by rw [show (Int32.ofInt 1 : Int32) = nI 1 from by decide, nI_add]) (by decide) rfl (fun ls hl => ?_)
      refine lv_goto (tgt := 5) hx hb dX11_salesOf_54 (by decide) ?_
      exact ih101 (o - (i + 1)) (by omega) (i + 1, _) _ _ _ (show o - (i + 1) = o - (i + 1) ∧ ((i + 1) ≤ o) ∧ zH D A τ fi fr ol s _ ∧ va_S A s.heap _ _ ∧ lv_has _ 5 [(0, .ref (τ.1 0)), (1, .ref (τ.1 (300 + t))), (2, .int x), (3, .int _), (4, .int (nI (i + 1)))] from ⟨rfl, (by omega), hH, hS, lv_sub hl [2, 3, 4, 1, 0] rfl⟩)
set_option maxHeartbeats 4000000 in
set_option maxRecDepth 100000 in
/-- X11_moneyOfOrders -/
theorem c_moneyOf (l : Launch) (hl0 : l.stackTraces = false) (D : va_G) (A : Nat → Prop) (sad : Nat → Nat) (τ : zTy) (fi : zFi) (fr : zFr) (ol : Int64) (hF : zFix τ fr) (n o : Nat) (hO : zOr τ fi fr n o) : Met l yX11_moneyOfOrders wsX11_moneyOfOrders ({ frames := 0, cells := 0, slots := 0, locals := 0 }) (va_Pc [.ref (τ.1 0)] (zQc D A sad τ fi fr ol)) (va_Qi (fun (r : Int32) (u : Unit) => True) (fun (u : Unit) (t : State) => zH D A τ fi fr ol t t.heap) A) 0 0 A := by
  refine Met.ofW (cc := cX11_moneyOfOrders) (maxL := 3) (ret := (some .int)) (by decide) rfl ?_
  intro p9 e9 s m args below meth c9 s₁ B hml hv
  obtain ⟨rfl, hz, hH, hA⟩ := hv
  have hx := B.exec
  have hb := B.bytes
  have hr := B.returns
  have hts := atoms_spec (ws := wsX11_moneyOfOrders) B.pre
  have hown : s.vm.findClass RX11 = some m.cls := findClass_of_methodNamed B.named
  have hlocks := B.notSynchronized
  have hS : va_S A s.heap s.heap [] := va_S.rf
  have hl := lv_entry ([.ref (τ.1 0)]) (n := 3) (Nat.le_of_ble_eq_true rfl)
  rw [lg_entry_eq]
  generalize (lg_sl ([.ref (τ.1 0)]) ++ List.replicate (3 - (lg_sl ([.ref (τ.1 0)])).length) Slot.unset).toArray = ls at hl ⊢
  have hl : lv_has ls 3 [(0, .ref (τ.1 0))] := hl
  have ho60 := hO.1
  have hiX11 : ∀ w ∈ u_ws RX11 TX11 16, w ∈ wsX11_moneyOfOrders := fun _ h => List.mem_cons_of_mem _ (List.mem_append_left _ (List.mem_append_right _ h))
  have hw1 := hts (.fieldLink RX11 366 "PostHouse" "orderCount" "I") (by decide +kernel)
  have hw2 := hts (.fieldLink RX11 48 "PostHouse" "orders" "[LPostHouse$Order;") (by decide +kernel)
  have hiX3 : ∀ w ∈ u_ws RX3 TX3 6, w ∈ wsX11_moneyOfOrders := fun _ h => List.mem_cons_of_mem _ (List.mem_append_right _ h)
  have hw4 := hts (.fieldLink RX11 260 "PostHouse$Order" "money" "I") (by decide +kernel)
  refine lv_iconst (v := nI 0) hx hb dX11_moneyOfOrders_0 (by decide) ?_
  refine lv_istore_n (lv' := [(1, .int (nI 0)), (0, .ref (τ.1 0))]) hx hb dX11_moneyOfOrders_1 rfl hl (by decide) rfl (fun ls hl => ?_)
  refine lv_iconst (v := nI 0) hx hb dX11_moneyOfOrders_2 (by decide) ?_
  refine lv_istore_n (lv' := [(2, .int (nI 0)), (1, .int (nI 0)), (0, .ref (τ.1 0))]) hx hb dX11_moneyOfOrders_3 rfl hl (by decide) rfl (fun ls hl => ?_)
  refine zLp (σ := Nat × Int32) (fun x9 k9 H locs ls => (fun (i : Nat) (y : Int32) => k9 = o - i ∧ (i ≤ o) ∧ zH D A τ fi fr ol s H ∧ va_S A s.heap H locs ∧ lv_has ls 3 [(0, .ref (τ.1 0)), (1, .int y), (2, .int (nI i))]) x9.1 x9.2) (0, nI 0) (o - 0) (show o - 0 = o - 0 ∧ (0 ≤ o) ∧ zH D A τ fi fr ol s _ ∧ va_S A s.heap _ _ ∧ lv_has _ 3 [(0, .ref (τ.1 0)), (1, .int (nI 0)), (2, .int (nI 0))] from ⟨rfl, Nat.zero_le _, hH, hS, lv_sub hl [2, 1, 0] rfl⟩) (fun k9 ih x9 H locs ls hv9 => ?_)
  obtain ⟨i, y⟩ := x9
  have hv9 : k9 = o - i ∧ (i ≤ o) ∧ zH D A τ fi fr ol s H ∧ va_S A s.heap H locs ∧ lv_has ls 3 [(0, .ref (τ.1 0)), (1, .int y), (2, .int (nI i))] := hv9
  obtain ⟨hkih101, hv9, hH, hS, hl⟩ := hv9
  obtain h1 := hv9
  have ih101 := ih
  clear ih
  refine lv_iload_n hx hb dX11_moneyOfOrders_4 rfl (lv_at hl 2 rfl) ?_
  refine lv_aload_n hx hb dX11_moneyOfOrders_5 rfl (lv_at hl 0 rfl) ?_
  refine zGetI (D := D) (ci := 11) (C := RX11) (T := TX11) (N := 16) hx hb hts hiX11 hown hH (zk_0 hF) rfl 11 (by decide) rfl hw1 (fun _ h9 => h9) dX11_moneyOfOrders_6 hO.2.1 ?_
  refine lv_icmp_ge (tgt := 30) hx hb dX11_moneyOfOrders_9 (by decide) (fun c102 => ?_) (fun c102 => ?_)
  · have zc102 := c102
    replace zc102 := zc_le (nI_toInt (by omega)) (nI_toInt (by omega)) zc102
    refine lv_iload_n hx hb dX11_moneyOfOrders_30 rfl (lv_at hl 1 rfl) ?_
    refine W.widen (k := 0) (n := 0) (by decide) (by decide) ?_
    exact W.iret (v := y) hx hb hr (fun t9 ht9 hW9 => ⟨⟨y, (), rfl, trivial, zEnd1 hH ht9 hW9⟩, hS.F ht9⟩) hS.2.2 dX11_moneyOfOrders_31
  · have zc102 := c102
    replace zc102 := zc_nle (nI_toInt (by omega)) (nI_toInt (by omega)) zc102
    refine lv_iload_n hx hb dX11_moneyOfOrders_12 rfl (lv_at hl 1 rfl) ?_
    refine lv_aload_n hx hb dX11_moneyOfOrders_13 rfl (lv_at hl 0 rfl) ?_
    refine zGetR (D := D) (ci := 11) (C := RX11) (T := TX11) (N := 16) hx hb hts hiX11 hown hH (zk_0 hF) rfl 6 (by decide) rfl hw2 (fun _ h9 => h9) dX11_moneyOfOrders_14 (zr_0_6 hF) ?_
    refine lv_iload_n hx hb dX11_moneyOfOrders_17 rfl (lv_at hl 2 rfl) ?_
    refine zAaldS (D := D) hx hb hH (zk_16 hF) (by decide) (by decide) rfl (zn_16 hF) (by omega) (by omega) (hO.2.2.1 i (by omega)).2.1.1 dX11_moneyOfOrders_18 ?_
    refine zGetI (D := D) (ci := 3) (C := RX3) (T := TX3) (N := 6) hx hb hts hiX3 hown hH (hO.2.2.1 i (by omega)).1.1 rfl 1 (by decide) rfl hw4 (fun _ h9 => h9) dX11_moneyOfOrders_19 rfl ?_
    refine lv_iadd hx hb dX11_moneyOfOrders_22 ?_
    refine lv_topi (fun v103 ev103 => ?_)
    refine lv_istore_n (lv' := [(1, .int v103), (0, .ref (τ.1 0)), (2, .int (nI i))]) hx hb dX11_moneyOfOrders_23 rfl hl (by decide) rfl (fun ls hl => ?_)
    refine lv_iinc (v := nI (i + 1)) (lv' := [(2, .int (nI (i + 1))), (1, .int v103), (0, .ref (τ.1 0))]) hx hb dX11_moneyOfOrders_24 hl (k := 2) rfl (by rw [show (Int32.ofInt 1 : Int32) = nI 1 from by decide, nI_add]) (by decide) rfl (fun ls hl => ?_)
    refine lv_goto (tgt := 4) hx hb dX11_moneyOfOrders_27 (by decide) ?_
    exact ih101 (o - (i + 1)) (by omega) (i + 1, _) _ _ _ (show o - (i + 1) = o - (i + 1) ∧ ((i + 1) ≤ o) ∧ zH D A τ fi fr ol s _ ∧ va_S A s.heap _ _ ∧ lv_has _ 3 [(0, .ref (τ.1 0)), (1, .int _), (2, .int (nI (i + 1)))] from ⟨rfl, (by omega), hH, hS, lv_sub hl [2, 1, 0] rfl⟩)
set_option maxHeartbeats 4000000 in
set_option maxRecDepth 100000 in
/-- X11_creditOfOrders -/
theorem c_creditOf (l : Launch) (hl0 : l.stackTraces = false) (D : va_G) (A : Nat → Prop) (sad : Nat → Nat) (τ : zTy) (fi : zFi) (fr : zFr) (ol : Int64) (hF : zFix τ fr) (n o : Nat) (hO : zOr τ fi fr n o) : Met l yX11_creditOfOrders wsX11_creditOfOrders ({ frames := 0, cells := 0, slots := 0, locals := 0 }) (va_Pc [.ref (τ.1 0)] (zQc D A sad τ fi fr ol)) (va_Qi (fun (r : Int32) (u : Unit) => True) (fun (u : Unit) (t : State) => zH D A τ fi fr ol t t.heap) A) 0 0 A := by
  refine Met.ofW (cc := cX11_creditOfOrders) (maxL := 3) (ret := (some .int)) (by decide) rfl ?_
  intro p9 e9 s m args below meth c9 s₁ B hml hv
  obtain ⟨rfl, hz, hH, hA⟩ := hv
  have hx := B.exec
  have hb := B.bytes
  have hr := B.returns
  have hts := atoms_spec (ws := wsX11_creditOfOrders) B.pre
  have hown : s.vm.findClass RX11 = some m.cls := findClass_of_methodNamed B.named
  have hlocks := B.notSynchronized
  have hS : va_S A s.heap s.heap [] := va_S.rf
  have hl := lv_entry ([.ref (τ.1 0)]) (n := 3) (Nat.le_of_ble_eq_true rfl)
  rw [lg_entry_eq]
  generalize (lg_sl ([.ref (τ.1 0)]) ++ List.replicate (3 - (lg_sl ([.ref (τ.1 0)])).length) Slot.unset).toArray = ls at hl ⊢
  have hl : lv_has ls 3 [(0, .ref (τ.1 0))] := hl
  have ho60 := hO.1
  have hiX11 : ∀ w ∈ u_ws RX11 TX11 16, w ∈ wsX11_creditOfOrders := fun _ h => List.mem_cons_of_mem _ (List.mem_append_left _ (List.mem_append_right _ h))
  have hw1 := hts (.fieldLink RX11 366 "PostHouse" "orderCount" "I") (by decide +kernel)
  have hw2 := hts (.fieldLink RX11 48 "PostHouse" "orders" "[LPostHouse$Order;") (by decide +kernel)
  have hiX3 : ∀ w ∈ u_ws RX3 TX3 6, w ∈ wsX11_creditOfOrders := fun _ h => List.mem_cons_of_mem _ (List.mem_append_right _ h)
  have hw4 := hts (.fieldLink RX11 261 "PostHouse$Order" "credit" "I") (by decide +kernel)
  refine lv_iconst (v := nI 0) hx hb dX11_creditOfOrders_0 (by decide) ?_
  refine lv_istore_n (lv' := [(1, .int (nI 0)), (0, .ref (τ.1 0))]) hx hb dX11_creditOfOrders_1 rfl hl (by decide) rfl (fun ls hl => ?_)
  refine lv_iconst (v := nI 0) hx hb dX11_creditOfOrders_2 (by decide) ?_
  refine lv_istore_n (lv' := [(2, .int (nI 0)), (1, .int (nI 0)), (0, .ref (τ.1 0))]) hx hb dX11_creditOfOrders_3 rfl hl (by decide) rfl (fun ls hl => ?_)
  refine zLp (σ := Nat × Int32) (fun x9 k9 H locs ls => (fun (i : Nat) (y : Int32) => k9 = o - i ∧ (i ≤ o) ∧ zH D A τ fi fr ol s H ∧ va_S A s.heap H locs ∧ lv_has ls 3 [(0, .ref (τ.1 0)), (1, .int y), (2, .int (nI i))]) x9.1 x9.2) (0, nI 0) (o - 0) (show o - 0 = o - 0 ∧ (0 ≤ o) ∧ zH D A τ fi fr ol s _ ∧ va_S A s.heap _ _ ∧ lv_has _ 3 [(0, .ref (τ.1 0)), (1, .int (nI 0)), (2, .int (nI 0))] from ⟨rfl, Nat.zero_le _, hH, hS, lv_sub hl [2, 1, 0] rfl⟩) (fun k9 ih x9 H locs ls hv9 => ?_)
  obtain ⟨i, y⟩ := x9
  have hv9 : k9 = o - i ∧ (i ≤ o) ∧ zH D A τ fi fr ol s H ∧ va_S A s.heap H locs ∧ lv_has ls 3 [(0, .ref (τ.1 0)), (1, .int y), (2, .int (nI i))] := hv9
  obtain ⟨hkih101, hv9, hH, hS, hl⟩ := hv9
  obtain h1 := hv9
  have ih101 := ih
  clear ih
  refine lv_iload_n hx hb dX11_creditOfOrders_4 rfl (lv_at hl 2 rfl) ?_
  refine lv_aload_n hx hb dX11_creditOfOrders_5 rfl (lv_at hl 0 rfl) ?_
  refine zGetI (D := D) (ci := 11) (C := RX11) (T := TX11) (N := 16) hx hb hts hiX11 hown hH (zk_0 hF) rfl 11 (by decide) rfl hw1 (fun _ h9 => h9) dX11_creditOfOrders_6 hO.2.1 ?_
  refine lv_icmp_ge (tgt := 30) hx hb dX11_creditOfOrders_9 (by decide) (fun c102 => ?_) (fun c102 => ?_)
  · have zc102 := c102
    replace zc102 := zc_le (nI_toInt (by omega)) (nI_toInt (by omega)) zc102
    refine lv_iload_n hx hb dX11_creditOfOrders_30 rfl (lv_at hl 1 rfl) ?_
    refine W.widen (k := 0) (n := 0) (by decide) (by decide) ?_
    exact W.iret (v := y) hx hb hr (fun t9 ht9 hW9 => ⟨⟨y, (), rfl, trivial, zEnd1 hH ht9 hW9⟩, hS.F ht9⟩) hS.2.2 dX11_creditOfOrders_31
  · have zc102 := c102
    replace zc102 := zc_nle (nI_toInt (by omega)) (nI_toInt (by omega)) zc102
    refine lv_iload_n hx hb dX11_creditOfOrders_12 rfl (lv_at hl 1 rfl) ?_
    refine lv_aload_n hx hb dX11_creditOfOrders_13 rfl (lv_at hl 0 rfl) ?_
    refine zGetR (D := D) (ci := 11) (C := RX11) (T := TX11) (N := 16) hx hb hts hiX11 hown hH (zk_0 hF) rfl 6 (by decide) rfl hw2 (fun _ h9 => h9) dX11_creditOfOrders_14 (zr_0_6 hF) ?_
    refine lv_iload_n hx hb dX11_creditOfOrders_17 rfl (lv_at hl 2 rfl) ?_
    refine zAaldS (D := D) hx hb hH (zk_16 hF) (by decide) (by decide) rfl (zn_16 hF) (by omega) (by omega) (hO.2.2.1 i (by omega)).2.1.1 dX11_creditOfOrders_18 ?_
    refine zGetI (D := D) (ci := 3) (C := RX3) (T := TX3) (N := 6) hx hb hts hiX3 hown hH (hO.2.2.1 i (by omega)).1.1 rfl 4 (by decide) rfl hw4 (fun _ h9 => h9) dX11_creditOfOrders_19 rfl ?_
    refine lv_iadd hx hb dX11_creditOfOrders_22 ?_
    refine lv_topi (fun v103 ev103 => ?_)
    refine lv_istore_n (lv' := [(1, .int v103), (0, .ref (τ.1 0)), (2, .int (nI i))]) hx hb dX11_creditOfOrders_23 rfl hl (by decide) rfl (fun ls hl => ?_)
    refine lv_iinc (v := nI (i + 1)) (lv' := [(2, .int (nI (i + 1))), (1, .int v103), (0, .ref (τ.1 0))]) hx hb dX11_creditOfOrders_24 hl (k := 2) rfl (by rw [show (Int32.ofInt 1 : Int32) = nI 1 from by decide, nI_add]) (by decide) rfl (fun ls hl => ?_)
    refine lv_goto (tgt := 4) hx hb dX11_creditOfOrders_27 (by decide) ?_
    exact ih101 (o - (i + 1)) (by omega) (i + 1, _) _ _ _ (show o - (i + 1) = o - (i + 1) ∧ ((i + 1) ≤ o) ∧ zH D A τ fi fr ol s _ ∧ va_S A s.heap _ _ ∧ lv_has _ 3 [(0, .ref (τ.1 0)), (1, .int _), (2, .int (nI (i + 1)))] from ⟨rfl, (by omega), hH, hS, lv_sub hl [2, 1, 0] rfl⟩)
set_option maxHeartbeats 4000000 in
set_option maxRecDepth 100000 in
/-- count -/
theorem c_count (l : Launch) (hl0 : l.stackTraces = false) (D : va_G) (A : Nat → Prop) (sad : Nat → Nat) (τ : zTy) (fi : zFi) (fr : zFr) (ol : Int64) (x : Int32) (hF : zFix τ fr) (n o : Nat) (hO : zOr τ fi fr n o) (c : Nat) (hC : zCm fi fr n c) (d : Nat) (hDo : zDo τ fi fr d) : Met l yX11_count wsX11_count ({ frames := 1, cells := 0, slots := 0, locals := 22 }) (va_Pc [.ref (τ.1 0), .int x] (zQc D A sad τ fi fr ol)) (va_Qi (fun (r : Int32) (u : Unit) => True) (fun (u : Unit) (t : State) => zH D A τ fi fr ol t t.heap) A) 0 0 A := by
  refine Met.ofW (cc := cX11_count) (maxL := 2) (ret := (some .int)) (by decide) rfl ?_
  intro p9 e9 s m args below meth c9 s₁ B hml hv
  obtain ⟨rfl, hz, hH, hA⟩ := hv
  have hx := B.exec
  have hb := B.bytes
  have hr := B.returns
  have hts := atoms_spec (ws := wsX11_count) B.pre
  have hown : s.vm.findClass RX11 = some m.cls := findClass_of_methodNamed B.named
  have hlocks := B.notSynchronized
  have hS : va_S A s.heap s.heap [] := va_S.rf
  have hl := lv_entry ([.ref (τ.1 0), .int x]) (n := 2) (Nat.le_of_ble_eq_true rfl)
  rw [lg_entry_eq]
  generalize (lg_sl ([.ref (τ.1 0), .int x]) ++ List.replicate (2 - (lg_sl ([.ref (τ.1 0), .int x])).length) Slot.unset).toArray = ls at hl ⊢
  have hl : lv_has ls 2 [(0, .ref (τ.1 0)), (1, .int x)] := hl
  have hiX11 : ∀ w ∈ u_ws RX11 TX11 16, w ∈ wsX11_count := fun _ h => List.mem_cons_of_mem _ (List.mem_append_left _ (List.mem_append_left _ (List.mem_append_left _ (List.mem_append_left _ (List.mem_append_left _ (List.mem_append_right _ h))))))
  have hw1 := hts (.fieldLink RX11 136 "PostHouse" "today" "I") (by decide +kernel)
  have hw2 := hts (.fieldLink RX11 19 "PostHouse" "book" "LPostHouse$Book;") (by decide +kernel)
  have hiX0 : ∀ w ∈ u_ws RX0 TX0 2, w ∈ wsX11_count := fun _ h => List.mem_cons_of_mem _ (List.mem_append_left _ (List.mem_append_left _ (List.mem_append_left _ (List.mem_append_left _ (List.mem_append_right _ h)))))
  have hw4 := hts (.fieldLink RX11 104 "PostHouse$Book" "size" "I") (by decide +kernel)
  have hw5 := hts (.fieldLink RX11 366 "PostHouse" "orderCount" "I") (by decide +kernel)
  have hw6 := hts (.fieldLink RX11 319 "PostHouse" "sendingCount" "I") (by decide +kernel)
  have hw7 := hts (.fieldLink RX11 68 "PostHouse" "walk" "LPostHouse$Walk;") (by decide +kernel)
  have hiX9 : ∀ w ∈ u_ws RX9 TX9 6, w ∈ wsX11_count := fun _ h => List.mem_cons_of_mem _ (List.mem_append_left _ (List.mem_append_left _ (List.mem_append_left _ (List.mem_append_right _ h))))
  have hw9 := hts (.fieldLink RX11 345 "PostHouse$Walk" "size" "I") (by decide +kernel)
  have hw10 := hts (.fieldLink RX11 204 "PostHouse" "mendedAtOnce" "I") (by decide +kernel)
  have hw11 := hts (.fieldLink RX11 26 "PostHouse" "comings" "LPostHouse$Comings;") (by decide +kernel)
  refine lv_iload_n hx hb dX11_count_0 rfl (lv_at hl 1 rfl) ?_
  rcases zCase9 x with c101 | c101 | c101 | c101 | c101 | c101 | c101 | c101 | c101 | c101 | c101
  · subst c101
    refine lv_tableIn (tgt := 56) (off := 55) hx hb dX11_count_1 (by decide) (by decide) rfl (by decide) ?_
    refine lv_aload_n hx hb dX11_count_56 rfl (lv_at hl 0 rfl) ?_
    refine zGetI (D := D) (ci := 11) (C := RX11) (T := TX11) (N := 16) hx hb hts hiX11 hown hH (zk_0 hF) rfl 15 (by decide) rfl hw1 (fun _ h9 => h9) dX11_count_57 rfl ?_
    refine W.widen (k := 0) (n := 0) (by decide) (by decide) ?_
    exact W.iret (v := fi 0 15) hx hb hr (fun t9 ht9 hW9 => ⟨⟨fi 0 15, (), rfl, trivial, zEnd1 hH ht9 hW9⟩, hS.F ht9⟩) hS.2.2 dX11_count_60
  · subst c101
    refine lv_tableIn (tgt := 61) (off := 60) hx hb dX11_count_1 (by decide) (by decide) rfl (by decide) ?_
    refine lv_aload_n hx hb dX11_count_61 rfl (lv_at hl 0 rfl) ?_
    refine zGetR (D := D) (ci := 11) (C := RX11) (T := TX11) (N := 16) hx hb hts hiX11 hown hH (zk_0 hF) rfl 1 (by decide) rfl hw2 (fun _ h9 => h9) dX11_count_62 (zr_0_1 hF) ?_
    refine zGetI (D := D) (ci := 0) (C := RX0) (T := TX0) (N := 2) hx hb hts hiX0 hown hH (zk_3 hF) rfl 1 (by decide) rfl hw4 (fun _ h9 => h9) dX11_count_65 rfl ?_
    refine W.widen (k := 0) (n := 0) (by decide) (by decide) ?_
    exact W.iret (v := fi 3 1) hx hb hr (fun t9 ht9 hW9 => ⟨⟨fi 3 1, (), rfl, trivial, zEnd1 hH ht9 hW9⟩, hS.F ht9⟩) hS.2.2 dX11_count_68
  · subst c101
    refine lv_tableIn (tgt := 69) (off := 68) hx hb dX11_count_1 (by decide) (by decide) rfl (by decide) ?_
    refine lv_aload_n hx hb dX11_count_69 rfl (lv_at hl 0 rfl) ?_
    refine zGetI (D := D) (ci := 11) (C := RX11) (T := TX11) (N := 16) hx hb hts hiX11 hown hH (zk_0 hF) rfl 11 (by decide) rfl hw5 (fun _ h9 => h9) dX11_count_70 rfl ?_
    refine W.widen (k := 0) (n := 0) (by decide) (by decide) ?_
    exact W.iret (v := fi 0 11) hx hb hr (fun t9 ht9 hW9 => ⟨⟨fi 0 11, (), rfl, trivial, zEnd1 hH ht9 hW9⟩, hS.F ht9⟩) hS.2.2 dX11_count_73
  · subst c101
    refine lv_tableIn (tgt := 74) (off := 73) hx hb dX11_count_1 (by decide) (by decide) rfl (by decide) ?_
    refine lv_aload_n hx hb dX11_count_74 rfl (lv_at hl 0 rfl) ?_
    refine va_calli (va_runV (As := []) (rest := []) ⟨hx, hb, hml, hown, hts⟩ (c_waiting l hl0 D A sad τ fi fr ol hF d hDo) (cwV 0 hts gX11_count_X11_waitingDoubts rfl rfl rfl (by decide +kernel) ⟨Nat.le_of_ble_eq_true rfl, Nat.le_of_ble_eq_true rfl⟩) ⟨zQc_bl, zRecv hH (zk_0 hF) rfl, zQc_at hz hS hA hH⟩ rfl rfl hl.1 rfl (lv_room (Nat.le_of_ble_eq_true rfl)) dX11_count_75 ⟨Nat.le_of_ble_eq_true rfl, Nat.le_of_ble_eq_true rfl⟩) hS (fun q _ h => h) (fun q h => h) (fun r102 u9 t9 H1 locs ht9 hvm9 hw hB hz1 hk1 hS => ?_)
    have hH := zMv ht9 hvm9 hB
    generalize H1 = H at hH hS ⊢
    refine W.widen (k := 0) (n := 0) (by decide) (by decide) ?_
    exact W.iret (v := r102) hx hb hr (fun t9 ht9 hW9 => ⟨⟨r102, (), rfl, trivial, zEnd1 hH ht9 hW9⟩, hS.F ht9⟩) hS.2.2 dX11_count_78
  · subst c101
    refine lv_tableIn (tgt := 79) (off := 78) hx hb dX11_count_1 (by decide) (by decide) rfl (by decide) ?_
    refine lv_aload_n hx hb dX11_count_79 rfl (lv_at hl 0 rfl) ?_
    refine zGetI (D := D) (ci := 11) (C := RX11) (T := TX11) (N := 16) hx hb hts hiX11 hown hH (zk_0 hF) rfl 12 (by decide) rfl hw6 (fun _ h9 => h9) dX11_count_80 rfl ?_
    refine W.widen (k := 0) (n := 0) (by decide) (by decide) ?_
    exact W.iret (v := fi 0 12) hx hb hr (fun t9 ht9 hW9 => ⟨⟨fi 0 12, (), rfl, trivial, zEnd1 hH ht9 hW9⟩, hS.F ht9⟩) hS.2.2 dX11_count_83
  · subst c101
    refine lv_tableIn (tgt := 84) (off := 83) hx hb dX11_count_1 (by decide) (by decide) rfl (by decide) ?_
    refine lv_aload_n hx hb dX11_count_84 rfl (lv_at hl 0 rfl) ?_
    refine zGetR (D := D) (ci := 11) (C := RX11) (T := TX11) (N := 16) hx hb hts hiX11 hown hH (zk_0 hF) rfl 9 (by decide) rfl hw7 (fun _ h9 => h9) dX11_count_85 (zr_0_9 hF) ?_
    refine zGetI (D := D) (ci := 9) (C := RX9) (T := TX9) (N := 6) hx hb hts hiX9 hown hH (zk_22 hF) rfl 1 (by decide) rfl hw9 (fun _ h9 => h9) dX11_count_88 rfl ?_
    refine W.widen (k := 0) (n := 0) (by decide) (by decide) ?_
    exact W.iret (v := fi 22 1) hx hb hr (fun t9 ht9 hW9 => ⟨⟨fi 22 1, (), rfl, trivial, zEnd1 hH ht9 hW9⟩, hS.F ht9⟩) hS.2.2 dX11_count_91
  · subst c101
    refine lv_tableIn (tgt := 92) (off := 91) hx hb dX11_count_1 (by decide) (by decide) rfl (by decide) ?_
    refine lv_aload_n hx hb dX11_count_92 rfl (lv_at hl 0 rfl) ?_
    refine zGetI (D := D) (ci := 11) (C := RX11) (T := TX11) (N := 16) hx hb hts hiX11 hown hH (zk_0 hF) rfl 13 (by decide) rfl hw10 (fun _ h9 => h9) dX11_count_93 rfl ?_
    refine W.widen (k := 0) (n := 0) (by decide) (by decide) ?_
    exact W.iret (v := fi 0 13) hx hb hr (fun t9 ht9 hW9 => ⟨⟨fi 0 13, (), rfl, trivial, zEnd1 hH ht9 hW9⟩, hS.F ht9⟩) hS.2.2 dX11_count_96
  · subst c101
    refine lv_tableIn (tgt := 97) (off := 96) hx hb dX11_count_1 (by decide) (by decide) rfl (by decide) ?_
    refine lv_aload_n hx hb dX11_count_97 rfl (lv_at hl 0 rfl) ?_
    refine va_calli (va_runV (As := []) (rest := []) ⟨hx, hb, hml, hown, hts⟩ (c_moneyOf l hl0 D A sad τ fi fr ol hF n o hO) (cwV 0 hts gX11_count_X11_moneyOfOrders rfl rfl rfl (by decide +kernel) ⟨Nat.le_of_ble_eq_true rfl, Nat.le_of_ble_eq_true rfl⟩) ⟨zQc_bl, zRecv hH (zk_0 hF) rfl, zQc_at hz hS hA hH⟩ rfl rfl hl.1 rfl (lv_room (Nat.le_of_ble_eq_true rfl)) dX11_count_98 ⟨Nat.le_of_ble_eq_true rfl, Nat.le_of_ble_eq_true rfl⟩) hS (fun q _ h => h) (fun q h => h) (fun r103 u9 t9 H1 locs ht9 hvm9 hw hB hz1 hk1 hS => ?_)
    have hH := zMv ht9 hvm9 hB
    generalize H1 = H at hH hS ⊢
    refine W.widen (k := 0) (n := 0) (by decide) (by decide) ?_
    exact W.iret (v := r103) hx hb hr (fun t9 ht9 hW9 => ⟨⟨r103, (), rfl, trivial, zEnd1 hH ht9 hW9⟩, hS.F ht9⟩) hS.2.2 dX11_count_101
  · subst c101
    refine lv_tableIn (tgt := 102) (off := 101) hx hb dX11_count_1 (by decide) (by decide) rfl (by decide) ?_
    refine lv_aload_n hx hb dX11_count_102 rfl (lv_at hl 0 rfl) ?_
    refine va_calli (va_runV (As := []) (rest := []) ⟨hx, hb, hml, hown, hts⟩ (c_creditOf l hl0 D A sad τ fi fr ol hF n o hO) (cwV 0 hts gX11_count_X11_creditOfOrders rfl rfl rfl (by decide +kernel) ⟨Nat.le_of_ble_eq_true rfl, Nat.le_of_ble_eq_true rfl⟩) ⟨zQc_bl, zRecv hH (zk_0 hF) rfl, zQc_at hz hS hA hH⟩ rfl rfl hl.1 rfl (lv_room (Nat.le_of_ble_eq_true rfl)) dX11_count_103 ⟨Nat.le_of_ble_eq_true rfl, Nat.le_of_ble_eq_true rfl⟩) hS (fun q _ h => h) (fun q h => h) (fun r104 u9 t9 H1 locs ht9 hvm9 hw hB hz1 hk1 hS => ?_)
    have hH := zMv ht9 hvm9 hB
    generalize H1 = H at hH hS ⊢
    refine W.widen (k := 0) (n := 0) (by decide) (by decide) ?_
    exact W.iret (v := r104) hx hb hr (fun t9 ht9 hW9 => ⟨⟨r104, (), rfl, trivial, zEnd1 hH ht9 hW9⟩, hS.F ht9⟩) hS.2.2 dX11_count_106
  · subst c101
    refine lv_tableIn (tgt := 107) (off := 106) hx hb dX11_count_1 (by decide) (by decide) rfl (by decide) ?_
    refine lv_aload_n hx hb dX11_count_107 rfl (lv_at hl 0 rfl) ?_
    refine zGetR (D := D) (ci := 11) (C := RX11) (T := TX11) (N := 16) hx hb hts hiX11 hown hH (zk_0 hF) rfl 2 (by decide) rfl hw11 (fun _ h9 => h9) dX11_count_108 (zr_0_2 hF) ?_
    refine va_calli (va_runV (As := []) (rest := []) ⟨hx, hb, hml, hown, hts⟩ (c_allPieces l hl0 D A sad τ fi fr ol hF n c hC) (cwV 0 hts gX11_count_X1_allPieces rfl rfl rfl (by decide +kernel) ⟨Nat.le_of_ble_eq_true rfl, Nat.le_of_ble_eq_true rfl⟩) ⟨zQc_bl, zRecv hH (zk_5 hF) rfl, zQc_at hz hS hA hH⟩ rfl rfl hl.1 rfl (lv_room (Nat.le_of_ble_eq_true rfl)) dX11_count_111 ⟨Nat.le_of_ble_eq_true rfl, Nat.le_of_ble_eq_true rfl⟩) hS (fun q _ h => h) (fun q h => h) (fun r105 u9 t9 H1 locs ht9 hvm9 hw hB hz1 hk1 hS => ?_)
    have hH := zMv ht9 hvm9 hB
    generalize H1 = H at hH hS ⊢
    refine W.widen (k := 0) (n := 0) (by decide) (by decide) ?_
    exact W.iret (v := r105) hx hb hr (fun t9 ht9 hW9 => ⟨⟨r105, (), rfl, trivial, zEnd1 hH ht9 hW9⟩, hS.F ht9⟩) hS.2.2 dX11_count_114
  · refine lv_tableOut (tgt := 115) hx hb dX11_count_1 c101 (by decide) ?_
    refine lv_iconst (v := (-1)) hx hb dX11_count_115 (by decide) ?_
    refine W.widen (k := 0) (n := 0) (by decide) (by decide) ?_
    exact W.iret (v := (-1)) hx hb hr (fun t9 ht9 hW9 => ⟨⟨(-1), (), rfl, trivial, zEnd1 hH ht9 hW9⟩, hS.F ht9⟩) hS.2.2 dX11_count_116
set_option maxHeartbeats 4000000 in
set_option maxRecDepth 100000 in
/-- foretold -/
theorem c_foretold (l : Launch) (hl0 : l.stackTraces = false) (D : va_G) (A : Nat → Prop) (sad : Nat → Nat) (τ : zTy) (fi : zFi) (fr : zFr) (ol : Int64) (x y z w v : Int32) (hF : zFix τ fr) (n o : Nat) (hO : zOr τ fi fr n o) (hT : zTh τ fi fr n) (c : Nat) (hC : zCm fi fr n c) : vx_Met l yX11_foretold wsX11_foretold ({ frames := 7, cells := 2, slots := 12, locals := 104 }) (va_Pc [.ref (τ.1 0), .int x, .int y, .int z, .int w, .int v] (zQc D A sad τ fi fr ol)) (va_Qi (fun (r : Int32) (u : Unit) => True) (fun (u : Unit) (t : State) => zH D A τ fi fr ol t t.heap) A) (vx_X (fun u : Unit => True) (fun (E : String) (u : Unit) (t : State) => (E = "java/lang/IndexOutOfBoundsException" ∨ E = "java/lang/IllegalArgumentException" ∨ E = "java/util/NoSuchElementException") ∧ zH D A τ fi fr ol t t.heap) A) 2 12 A := by
  refine vx_ofW (cc := cX11_foretold) (maxL := 10) (ret := (some .int)) (by decide) rfl ?_
  intro p9 e9 s m args below meth c9 s₁ B hml ht0 hv
  obtain ⟨rfl, hz, hH, hA⟩ := hv
  have hx := B.exec
  have hb := B.bytes
  have hr := B.returns
  have hts := atoms_spec (ws := wsX11_foretold) B.pre
  have hown : s.vm.findClass RX11 = some m.cls := findClass_of_methodNamed B.named
  have hlocks := B.notSynchronized
  have hS : va_S A s.heap s.heap [] := va_S.rf
  have hl := lv_entry ([.ref (τ.1 0), .int x, .int y, .int z, .int w, .int v]) (n := 10) (Nat.le_of_ble_eq_true rfl)
  rw [lg_entry_eq]
  generalize (lg_sl ([.ref (τ.1 0), .int x, .int y, .int z, .int w, .int v]) ++ List.replicate (10 - (lg_sl ([.ref (τ.1 0), .int x, .int y, .int z, .int w, .int v])).length) Slot.unset).toArray = ls at hl ⊢
  have hl : lv_has ls 10 [(0, .ref (τ.1 0)), (1, .int x), (2, .int y), (3, .int z), (4, .int w), (5, .int v)] := hl
  have hn30 := hT.1
  have ho60 := hO.1
  have hiX8 : ∀ w ∈ u_ws RX8 TX8 10, w ∈ wsX11_foretold := fun _ h => List.mem_cons_of_mem _ (List.mem_append_left _ (List.mem_append_left _ (List.mem_append_left _ (List.mem_append_left _ (List.mem_append_left _ (List.mem_append_left _ (List.mem_append_left _ (List.mem_append_left _ (List.mem_append_right _ h)))))))))
  have hw1 := hts (.fieldLink RX11 147 "PostHouse$Thing" "stock" "I") (by decide +kernel)
  have hiX11 : ∀ w ∈ u_ws RX11 TX11 16, w ∈ wsX11_foretold := fun _ h => List.mem_cons_of_mem _ (List.mem_append_left _ (List.mem_append_left _ (List.mem_append_left _ (List.mem_append_left _ (List.mem_append_left _ (List.mem_append_left _ (List.mem_append_left _ (List.mem_append_right _ h))))))))
  have hw3 := hts (.fieldLink RX11 26 "PostHouse" "comings" "LPostHouse$Comings;") (by decide +kernel)
  have hw4 := hts (.methodLink RX11 359 Lib.Math.max.name) (by decide +kernel)
  have hw5 := hts (.static Lib.Math.max.name) (by decide +kernel)
  have hw6 := hts (.initialized "java/lang/Math") (by decide +kernel)
  have hw7 := hts (.code Lib.Math.max.name Lib.Math.max.code 2 (some .int)) (by decide +kernel)
  have hw8 := hts (.classLink RX11 169 "java/util/NoSuchElementException") (by decide +kernel)
  have hw9 := hts (.initialized "java/util/NoSuchElementException") (by decide +kernel)
  have hw10 := hts (.classLink RX11 91 "java/lang/IllegalArgumentException") (by decide +kernel)
  have hw11 := hts (.initialized "java/lang/IllegalArgumentException") (by decide +kernel)
  refine lv_aload_n hx hb dX11_foretold_0 rfl (lv_at hl 0 rfl) ?_
  refine lv_iload_n hx hb dX11_foretold_1 rfl (lv_at hl 1 rfl) ?_
  refine vx_callq (vx_runV (As := [.int x]) (rest := []) ⟨hx, hb, hml, hown, hts⟩ (c_thingAt l hl0 D A sad τ fi fr ol x hF n hT) (cwV 1 hts gX11_foretold_X11_thingAt rfl rfl rfl (by decide +kernel) ⟨Nat.le_of_ble_eq_true rfl, Nat.le_of_ble_eq_true rfl⟩) ⟨zQc_bl, zRecv hH (zk_0 hF) rfl, zQc_at hz hS hA hH⟩ rfl rfl hl.1 rfl (lv_room (Nat.le_of_ble_eq_true rfl)) dX11_foretold_2 ⟨Nat.le_of_ble_eq_true rfl, Nat.le_of_ble_eq_true rfl⟩) hS (fun q _ h => h) (fun q h => h) (fun q _ h => h) (fun E ce q9 u9 t9 H1 locs ht9 hvm9 hw hB hz1 hk1 hS hce hcv hcl => ?_) (fun r101 u9 t9 H1 locs ht9 hvm9 hw hB hz1 hk1 hS => ?_)
  · obtain ⟨hX, hB⟩ := hB
    have hH := zMv ht9 hvm9 hB
    generalize H1 = H at hH hS hce ⊢
    exact vx_out (fun x h9 => (ht0 x h9).elim) hlocks hce hcv hcl (fun t9 ht9 hvm9 => ⟨(), trivial, ⟨Or.inl hX.1, zOut hH ht9 hvm9⟩, hS.F ht9⟩) hS.2.2 (by decide) (by decide)
  · skip
    have hH := zMv ht9 hvm9 hB
    generalize H1 = H at hH hS ⊢
    refine W.widen (k := 1) (n := 6) (by decide) (by decide) ?_
    obtain ⟨t, ht, rfl, rfl⟩ := hw
    refine lv_astore (lv' := [(6, .ref (τ.1 (300 + t))), (0, .ref (τ.1 0)), (1, .int (nI t)), (2, .int y), (3, .int z), (4, .int w), (5, .int v)]) hx hb dX11_foretold_5 hl (by decide) rfl (fun ls hl => ?_)
    refine lv_iload_n hx hb dX11_foretold_7 rfl (lv_at hl 3 rfl) ?_
    refine lv_iconst (v := nI 0) hx hb dX11_foretold_8 (by decide) ?_
    refine lv_sipush (v := nI 999) hx hb dX11_foretold_9 (by decide) ?_
    refine va_calli (va_runS (As := [.int y, .int (nI 0), .int (nI 999)]) (rest := []) ⟨hx, hb, hml, hown, hts⟩ (c_within l hl0 D A sad τ fi fr ol y (nI 0) (nI 999)) (cwS 3 hts gX11_foretold_X11_within rfl rfl rfl (by decide +kernel) ⟨Nat.le_of_ble_eq_true rfl, Nat.le_of_ble_eq_true rfl⟩) ⟨zQc_bl, zQc_at hz hS hA hH⟩ rfl rfl hl.1 rfl (lv_room (Nat.le_of_ble_eq_true rfl)) dX11_foretold_12 ⟨Nat.le_of_ble_eq_true rfl, Nat.le_of_ble_eq_true rfl⟩) hS (fun q _ h => h) (fun q h => h) (fun r102 u9 t9 H1 locs ht9 hvm9 hw hB hz1 hk1 hS => ?_)
    have hH := zMv ht9 hvm9 hB
    generalize H1 = H at hH hS ⊢
    rcases hw with ⟨rfl, hy103⟩ | ⟨rfl, hn104⟩
    · skip
      replace hy103 := zWi1 (rfl) (nI_toInt (by omega)) (nI_toInt (by omega)) hy103
      refine lv_if_eq (tgt := 41) hx hb dX11_foretold_15 (by decide) (fun c105 => absurd c105 (by decide)) (fun c105 => ?_)
      refine lv_iload_n hx hb dX11_foretold_18 rfl (lv_at hl 4 rfl) ?_
      refine lv_iconst (v := nI 1) hx hb dX11_foretold_19 (by decide) ?_
      refine lv_sipush (v := nI 1000) hx hb dX11_foretold_20 (by decide) ?_
      refine va_calli (va_runS (As := [.int z, .int (nI 1), .int (nI 1000)]) (rest := []) ⟨hx, hb, hml, hown, hts⟩ (c_within l hl0 D A sad τ fi fr ol z (nI 1) (nI 1000)) (cwS 3 hts gX11_foretold_X11_within rfl rfl rfl (by decide +kernel) ⟨Nat.le_of_ble_eq_true rfl, Nat.le_of_ble_eq_true rfl⟩) ⟨zQc_bl, zQc_at hz hS hA hH⟩ rfl rfl hl.1 rfl (lv_room (Nat.le_of_ble_eq_true rfl)) dX11_foretold_23 ⟨Nat.le_of_ble_eq_true rfl, Nat.le_of_ble_eq_true rfl⟩) hS (fun q _ h => h) (fun q h => h) (fun r106 u9 t9 H1 locs ht9 hvm9 hw hB hz1 hk1 hS => ?_)
      have hH := zMv ht9 hvm9 hB
      generalize H1 = H at hH hS ⊢
      rcases hw with ⟨rfl, hy107⟩ | ⟨rfl, hn108⟩
      · skip
        replace hy107 := zWi1 (rfl) (nI_toInt (by omega)) (nI_toInt (by omega)) hy107
        refine lv_if_eq (tgt := 41) hx hb dX11_foretold_26 (by decide) (fun c109 => absurd c109 (by decide)) (fun c109 => ?_)
        refine lv_iload hx hb dX11_foretold_29 (lv_at hl 5 rfl) ?_
        refine lv_iconst (v := nI 1) hx hb dX11_foretold_31 (by decide) ?_
        refine lv_sipush (v := nI 1000) hx hb dX11_foretold_32 (by decide) ?_
        refine va_calli (va_runS (As := [.int w, .int (nI 1), .int (nI 1000)]) (rest := []) ⟨hx, hb, hml, hown, hts⟩ (c_within l hl0 D A sad τ fi fr ol w (nI 1) (nI 1000)) (cwS 3 hts gX11_foretold_X11_within rfl rfl rfl (by decide +kernel) ⟨Nat.le_of_ble_eq_true rfl, Nat.le_of_ble_eq_true rfl⟩) ⟨zQc_bl, zQc_at hz hS hA hH⟩ rfl rfl hl.1 rfl (lv_room (Nat.le_of_ble_eq_true rfl)) dX11_foretold_35 ⟨Nat.le_of_ble_eq_true rfl, Nat.le_of_ble_eq_true rfl⟩) hS (fun q _ h => h) (fun q h => h) (fun r110 u9 t9 H1 locs ht9 hvm9 hw hB hz1 hk1 hS => ?_)
        have hH := zMv ht9 hvm9 hB
        generalize H1 = H at hH hS ⊢
        rcases hw with ⟨rfl, hy111⟩ | ⟨rfl, hn112⟩
        · skip
          replace hy111 := zWi1 (rfl) (nI_toInt (by omega)) (nI_toInt (by omega)) hy111
          refine lv_if_ne (tgt := 52) hx hb dX11_foretold_38 (by decide) (fun c113 => ?_) (fun c113 => absurd c113 (by decide))
          refine lv_aload_n hx hb dX11_foretold_52 rfl (lv_at hl 1 rfl) ?_
          refine lv_aload hx hb dX11_foretold_53 (lv_at hl 0 rfl) ?_
          refine lv_iload_n hx hb dX11_foretold_55 rfl (lv_at hl 3 rfl) ?_
          refine va_calli (va_runV (As := [.ref (τ.1 (300 + t)), .int y]) (rest := []) ⟨hx, hb, hml, hown, hts⟩ (c_salesOf l hl0 D A sad τ fi fr ol y hF n o hO t ht) (cwV 2 hts gX11_foretold_X11_salesOf rfl rfl rfl (by decide +kernel) ⟨Nat.le_of_ble_eq_true rfl, Nat.le_of_ble_eq_true rfl⟩) ⟨zQc_bl, zRecv hH (zk_0 hF) rfl, zQc_at hz hS hA hH⟩ rfl rfl hl.1 rfl (lv_room (Nat.le_of_ble_eq_true rfl)) dX11_foretold_56 ⟨Nat.le_of_ble_eq_true rfl, Nat.le_of_ble_eq_true rfl⟩) hS (fun q _ h => h) (fun q h => h) (fun r114 u9 t9 H1 locs ht9 hvm9 hw hB hz1 hk1 hS => ?_)
          have hH := zMv ht9 hvm9 hB
          generalize H1 = H at hH hS ⊢
          refine lv_istore (lv' := [(7, .int r114), (6, .ref (τ.1 (300 + t))), (0, .ref (τ.1 0)), (1, .int (nI t)), (2, .int y), (3, .int z), (4, .int w), (5, .int v)]) hx hb dX11_foretold_59 hl (by decide) rfl (fun ls hl => ?_)
          refine lv_iload hx hb dX11_foretold_61 (lv_at hl 0 rfl) ?_
          refine lv_sipush (v := nI 1000) hx hb dX11_foretold_63 (by decide) ?_
          refine lv_imul hx hb dX11_foretold_66 ?_
          refine lv_topi (fun v115 ev115 => ?_)
          refine lv_iload_n hx hb dX11_foretold_67 rfl (lv_at hl 5 rfl) ?_
          refine va_calli (va_runS (As := [.int v115, .int z]) (rest := []) ⟨hx, hb, hml, hown, hts⟩ (c_roundedUp l hl0 D A sad τ fi fr ol v115 z) (cwS 2 hts gX11_foretold_X11_roundedUp rfl rfl rfl (by decide +kernel) ⟨Nat.le_of_ble_eq_true rfl, Nat.le_of_ble_eq_true rfl⟩) ⟨zQc_bl, zQc_at hz hS hA hH⟩ rfl rfl hl.1 rfl (lv_room (Nat.le_of_ble_eq_true rfl)) dX11_foretold_68 ⟨Nat.le_of_ble_eq_true rfl, Nat.le_of_ble_eq_true rfl⟩) hS (fun q _ h => h) (fun q h => h) (fun r116 u9 t9 H1 locs ht9 hvm9 hw hB hz1 hk1 hS => ?_)
          have hH := zMv ht9 hvm9 hB
          generalize H1 = H at hH hS ⊢
          refine lv_istore (lv' := [(8, .int r116), (7, .int r114), (6, .ref (τ.1 (300 + t))), (0, .ref (τ.1 0)), (1, .int (nI t)), (2, .int y), (3, .int z), (4, .int w), (5, .int v)]) hx hb dX11_foretold_71 hl (by decide) rfl (fun ls hl => ?_)
          refine lv_iload hx hb dX11_foretold_73 (lv_at hl 8 rfl) ?_
          rcases zCase2 v with c117 | c117 | c117 | c117
          · subst c117
            refine lv_tableIn (tgt := 100) (off := 25) hx hb dX11_foretold_75 (by decide) (by decide) rfl (by decide) ?_
            refine lv_iload hx hb dX11_foretold_100 (lv_at hl 1 rfl) ?_
            refine W.widen (k := 2) (n := 12) (by decide) (by decide) ?_
            refine vx_ret ?_
            exact W.iret (v := r114) hx hb hr (fun t9 ht9 hW9 => ⟨⟨r114, (), rfl, trivial, zEnd1 hH ht9 hW9⟩, hS.F ht9⟩) hS.2.2 dX11_foretold_102
          · subst c117
            refine lv_tableIn (tgt := 103) (off := 28) hx hb dX11_foretold_75 (by decide) (by decide) rfl (by decide) ?_
            refine lv_iload hx hb dX11_foretold_103 (lv_at hl 0 rfl) ?_
            refine W.widen (k := 2) (n := 12) (by decide) (by decide) ?_
            refine vx_ret ?_
            exact W.iret (v := r116) hx hb hr (fun t9 ht9 hW9 => ⟨⟨r116, (), rfl, trivial, zEnd1 hH ht9 hW9⟩, hS.F ht9⟩) hS.2.2 dX11_foretold_105
          · subst c117
            refine lv_tableIn (tgt := 106) (off := 31) hx hb dX11_foretold_75 (by decide) (by decide) rfl (by decide) ?_
            refine lv_iload hx hb dX11_foretold_106 (lv_at hl 0 rfl) ?_
            refine lv_iload hx hb dX11_foretold_108 (lv_at hl 1 rfl) ?_
            refine lv_isub hx hb dX11_foretold_110 ?_
            refine lv_topi (fun v118 ev118 => ?_)
            refine lv_aload hx hb dX11_foretold_111 (lv_at hl 2 rfl) ?_
            refine zGetI (D := D) (ci := 8) (C := RX8) (T := TX8) (N := 10) hx hb hts hiX8 hown hH (hT.2.2.1 t (by omega)).1.1 rfl 5 (by decide) rfl hw1 (fun _ h9 => h9) dX11_foretold_113 rfl ?_
            refine lv_isub hx hb dX11_foretold_116 ?_
            refine lv_topi (fun v119 ev119 => ?_)
            refine lv_aload_n hx hb dX11_foretold_117 rfl (lv_at hl 3 rfl) ?_
            refine zGetR (D := D) (ci := 11) (C := RX11) (T := TX11) (N := 16) hx hb hts hiX11 hown hH (zk_0 hF) rfl 2 (by decide) rfl hw3 (fun _ h9 => h9) dX11_foretold_118 (zr_0_2 hF) ?_
            refine lv_aload hx hb dX11_foretold_121 (lv_at hl 2 rfl) ?_
            refine va_calli (va_runV (As := [.ref (τ.1 (300 + t))]) (rest := [.int v119]) ⟨hx, hb, hml, hown, hts⟩ (c_piecesOf l hl0 D A sad τ fi fr ol hF n hT c hC t ht) (cwV 1 hts gX11_foretold_X1_piecesOf rfl rfl rfl (by decide +kernel) ⟨Nat.le_of_ble_eq_true rfl, Nat.le_of_ble_eq_true rfl⟩) ⟨zQc_bl, zRecv hH (zk_5 hF) rfl, zQc_at hz hS hA hH⟩ rfl rfl hl.1 rfl (lv_room (Nat.le_of_ble_eq_true rfl)) dX11_foretold_123 ⟨Nat.le_of_ble_eq_true rfl, Nat.le_of_ble_eq_true rfl⟩) hS (fun q _ h => h) (fun q h => h) (fun r120 u9 t9 H1 locs ht9 hvm9 hw hB hz1 hk1 hS => ?_)
            have hH := zMv ht9 hvm9 hB
            generalize H1 = H at hH hS ⊢
            refine lv_isub hx hb dX11_foretold_126 ?_
            refine lv_topi (fun v121 ev121 => ?_)
            refine lv_istore (lv' := [(9, .int v121), (8, .int r116), (7, .int r114), (6, .ref (τ.1 (300 + t))), (0, .ref (τ.1 0)), (1, .int (nI t)), (2, .int y), (3, .int z), (4, .int w), (5, .int (nI 2))]) hx hb dX11_foretold_127 hl (by decide) rfl (fun ls hl => ?_)
            refine lv_iload hx hb dX11_foretold_129 (lv_at hl 0 rfl) ?_
            refine lv_iconst (v := nI 0) hx hb dX11_foretold_131 (by decide) ?_
            refine va_mmax hx hb (by rw [hml]; exact hl.1.symm) hown hw4 hw5 hw6 hw7 (Nat.le_of_ble_eq_true rfl) (Nat.le_of_ble_eq_true rfl) (Nat.le_of_ble_eq_true rfl) (Nat.le_of_ble_eq_true rfl) dX11_foretold_132 ?_
            refine lv_topi (fun v122 ev122 => ?_)
            refine lv_iload hx hb dX11_foretold_135 (lv_at hl 8 rfl) ?_
            refine va_calli (va_runS (As := [.int v122, .int w]) (rest := []) ⟨hx, hb, hml, hown, hts⟩ (c_roundedUp l hl0 D A sad τ fi fr ol v122 w) (cwS 2 hts gX11_foretold_X11_roundedUp rfl rfl rfl (by decide +kernel) ⟨Nat.le_of_ble_eq_true rfl, Nat.le_of_ble_eq_true rfl⟩) ⟨zQc_bl, zQc_at hz hS hA hH⟩ rfl rfl hl.1 rfl (lv_room (Nat.le_of_ble_eq_true rfl)) dX11_foretold_137 ⟨Nat.le_of_ble_eq_true rfl, Nat.le_of_ble_eq_true rfl⟩) hS (fun q _ h => h) (fun q h => h) (fun r123 u9 t9 H1 locs ht9 hvm9 hw hB hz1 hk1 hS => ?_)
            have hH := zMv ht9 hvm9 hB
            generalize H1 = H at hH hS ⊢
            refine lv_iload hx hb dX11_foretold_140 (lv_at hl 8 rfl) ?_
            refine lv_imul hx hb dX11_foretold_142 ?_
            refine lv_topi (fun v124 ev124 => ?_)
            refine W.widen (k := 2) (n := 12) (by decide) (by decide) ?_
            refine vx_ret ?_
            exact W.iret (v := v124) hx hb hr (fun t9 ht9 hW9 => ⟨⟨v124, (), rfl, trivial, zEnd1 hH ht9 hW9⟩, hS.F ht9⟩) hS.2.2 dX11_foretold_143
          · refine lv_tableOut (tgt := 144) hx hb dX11_foretold_75 c117 (by decide) ?_
            obtain ⟨a125, ha125⟩ := hz.1.2.2.2.2.1 _ (List.mem_of_getElem? (i := 20) rfl)
            have hat : ∀ w ∈ zAtN RX11 173, w.before _ s = true := vx_hat (fun w h => hts w (List.mem_cons_of_mem _ (List.mem_append_left _ (List.mem_append_right _ h)))) (B := [.castable "java/util/NoSuchElementException" "java/util/NoSuchElementException", .declares (Bundle.initS "java/lang/RuntimeException"), .declares (Bundle.initS "java/lang/Exception"), .declares (Bundle.initS Bundle.tN)]) (by decide +kernel) (vx_c (va_Nw.use rfl (hz.1.2.2.2.2.2.2.2.1 _ (List.mem_of_getElem? (i := 3) rfl))) (vx_c (va_Nw.use rfl (hz.1.2.2.2.2.2.2.2.2 _ (List.mem_of_getElem? (i := 0) rfl))) (vx_c (va_Nw.use rfl (hz.1.2.2.2.2.2.2.2.2 _ (List.mem_of_getElem? (i := 1) rfl))) (vx_c (va_Nw.use rfl (hz.1.2.2.2.2.2.2.2.2 _ (List.mem_of_getElem? (i := 2) rfl))) vx_n))))
            exact zThrowNW hx hb hl0 (own := RX11) (text := "nothing else is foretold") hown hw8 hw9 ha125 hat (by decide +kernel) hz.1.1 hz.1.2.1 hS (by rw [hml]; exact hl.1) dX11_foretold_144 dX11_foretold_147 dX11_foretold_148 dX11_foretold_151 dX11_foretold_154 (fun x h9 => (ht0 x h9).elim) (Nat.le_of_ble_eq_true rfl) (Nat.le_of_ble_eq_true rfl) (Nat.le_of_ble_eq_true rfl) (Nat.le_of_ble_eq_true rfl) hlocks (fun t9 hvm9 h91 h92 => ⟨(), trivial, ⟨Or.inr (Or.inr rfl), zThr hH hvm9 h92⟩, zF2 hS h91 h92⟩) hS.2.2 (by decide) (by decide)
        · skip
          replace hn112 := zWi0 (rfl) (nI_toInt (by omega)) (nI_toInt (by omega)) hn112
          refine lv_if_ne (tgt := 52) hx hb dX11_foretold_38 (by decide) (fun c126 => absurd (by decide) c126) (fun c126 => ?_)
          obtain ⟨a127, ha127⟩ := hz.1.2.2.2.2.1 _ (List.mem_of_getElem? (i := 19) rfl)
          have hat : ∀ w ∈ vx_atS RX11 95 "java/lang/IllegalArgumentException" ["java/lang/RuntimeException", "java/lang/Exception"], w.before _ s = true := vx_hat (fun w h => hts w (List.mem_cons_of_mem _ (List.mem_append_left _ (List.mem_append_left _ (List.mem_append_right _ h))))) (B := [.castable "java/lang/IllegalArgumentException" "java/lang/IllegalArgumentException", .declares (Bundle.initS "java/lang/RuntimeException"), .declares (Bundle.initS "java/lang/Exception"), .declares (Bundle.initS Bundle.tN)]) (by decide +kernel) (vx_c (va_Nw.use rfl (hz.1.2.2.2.2.2.2.2.1 _ (List.mem_of_getElem? (i := 1) rfl))) (vx_c (va_Nw.use rfl (hz.1.2.2.2.2.2.2.2.2 _ (List.mem_of_getElem? (i := 0) rfl))) (vx_c (va_Nw.use rfl (hz.1.2.2.2.2.2.2.2.2 _ (List.mem_of_getElem? (i := 1) rfl))) (vx_c (va_Nw.use rfl (hz.1.2.2.2.2.2.2.2.2 _ (List.mem_of_getElem? (i := 2) rfl))) vx_n))))
          exact vx_throwSW hx hb hl0 (own := RX11) (cls := "java/lang/IllegalArgumentException") (text := "a number of the foretelling is out of its bounds") (names := ["java/lang/RuntimeException", "java/lang/Exception"]) hown (by decide +kernel) (by decide +kernel) hw10 hw11 ha127 hat (by decide +kernel) hz.1.1 hz.1.2.1 hS (by rw [hml]; exact hl.1) dX11_foretold_41 dX11_foretold_44 dX11_foretold_45 dX11_foretold_48 dX11_foretold_51 (fun x h9 => (ht0 x h9).elim) (Nat.le_of_ble_eq_true rfl) (Nat.le_of_ble_eq_true rfl) (Nat.le_of_ble_eq_true rfl) (Nat.le_of_ble_eq_true rfl) hlocks (fun t9 hvm9 h91 h92 => ⟨(), trivial, ⟨Or.inr (Or.inl rfl), zThr hH hvm9 h92⟩, zF2 hS h91 h92⟩) hS.2.2 (by decide) (by decide)
      · skip
        replace hn108 := zWi0 (rfl) (nI_toInt (by omega)) (nI_toInt (by omega)) hn108
        refine lv_if_eq (tgt := 41) hx hb dX11_foretold_26 (by decide) (fun c128 => ?_) (fun c128 => absurd (by decide) c128)
        obtain ⟨a129, ha129⟩ := hz.1.2.2.2.2.1 _ (List.mem_of_getElem? (i := 19) rfl)
        have hat : ∀ w ∈ vx_atS RX11 95 "java/lang/IllegalArgumentException" ["java/lang/RuntimeException", "java/lang/Exception"], w.before _ s = true := vx_hat (fun w h => hts w (List.mem_cons_of_mem _ (List.mem_append_left _ (List.mem_append_left _ (List.mem_append_right _ h))))) (B := [.castable "java/lang/IllegalArgumentException" "java/lang/IllegalArgumentException", .declares (Bundle.initS "java/lang/RuntimeException"), .declares (Bundle.initS "java/lang/Exception"), .declares (Bundle.initS Bundle.tN)]) (by decide +kernel) (vx_c (va_Nw.use rfl (hz.1.2.2.2.2.2.2.2.1 _ (List.mem_of_getElem? (i := 1) rfl))) (vx_c (va_Nw.use rfl (hz.1.2.2.2.2.2.2.2.2 _ (List.mem_of_getElem? (i := 0) rfl))) (vx_c (va_Nw.use rfl (hz.1.2.2.2.2.2.2.2.2 _ (List.mem_of_getElem? (i := 1) rfl))) (vx_c (va_Nw.use rfl (hz.1.2.2.2.2.2.2.2.2 _ (List.mem_of_getElem? (i := 2) rfl))) vx_n))))
        exact vx_throwSW hx hb hl0 (own := RX11) (cls := "java/lang/IllegalArgumentException") (text := "a number of the foretelling is out of its bounds") (names := ["java/lang/RuntimeException", "java/lang/Exception"]) hown (by decide +kernel) (by decide +kernel) hw10 hw11 ha129 hat (by decide +kernel) hz.1.1 hz.1.2.1 hS (by rw [hml]; exact hl.1) dX11_foretold_41 dX11_foretold_44 dX11_foretold_45 dX11_foretold_48 dX11_foretold_51 (fun x h9 => (ht0 x h9).elim) (Nat.le_of_ble_eq_true rfl) (Nat.le_of_ble_eq_true rfl) (Nat.le_of_ble_eq_true rfl) (Nat.le_of_ble_eq_true rfl) hlocks (fun t9 hvm9 h91 h92 => ⟨(), trivial, ⟨Or.inr (Or.inl rfl), zThr hH hvm9 h92⟩, zF2 hS h91 h92⟩) hS.2.2 (by decide) (by decide)
    · skip
      replace hn104 := zWi0 (rfl) (nI_toInt (by omega)) (nI_toInt (by omega)) hn104
      refine lv_if_eq (tgt := 41) hx hb dX11_foretold_15 (by decide) (fun c130 => ?_) (fun c130 => absurd (by decide) c130)
      obtain ⟨a131, ha131⟩ := hz.1.2.2.2.2.1 _ (List.mem_of_getElem? (i := 19) rfl)
      have hat : ∀ w ∈ vx_atS RX11 95 "java/lang/IllegalArgumentException" ["java/lang/RuntimeException", "java/lang/Exception"], w.before _ s = true := vx_hat (fun w h => hts w (List.mem_cons_of_mem _ (List.mem_append_left _ (List.mem_append_left _ (List.mem_append_right _ h))))) (B := [.castable "java/lang/IllegalArgumentException" "java/lang/IllegalArgumentException", .declares (Bundle.initS "java/lang/RuntimeException"), .declares (Bundle.initS "java/lang/Exception"), .declares (Bundle.initS Bundle.tN)]) (by decide +kernel) (vx_c (va_Nw.use rfl (hz.1.2.2.2.2.2.2.2.1 _ (List.mem_of_getElem? (i := 1) rfl))) (vx_c (va_Nw.use rfl (hz.1.2.2.2.2.2.2.2.2 _ (List.mem_of_getElem? (i := 0) rfl))) (vx_c (va_Nw.use rfl (hz.1.2.2.2.2.2.2.2.2 _ (List.mem_of_getElem? (i := 1) rfl))) (vx_c (va_Nw.use rfl (hz.1.2.2.2.2.2.2.2.2 _ (List.mem_of_getElem? (i := 2) rfl))) vx_n))))
      exact vx_throwSW hx hb hl0 (own := RX11) (cls := "java/lang/IllegalArgumentException") (text := "a number of the foretelling is out of its bounds") (names := ["java/lang/RuntimeException", "java/lang/Exception"]) hown (by decide +kernel) (by decide +kernel) hw10 hw11 ha131 hat (by decide +kernel) hz.1.1 hz.1.2.1 hS (by rw [hml]; exact hl.1) dX11_foretold_41 dX11_foretold_44 dX11_foretold_45 dX11_foretold_48 dX11_foretold_51 (fun x h9 => (ht0 x h9).elim) (Nat.le_of_ble_eq_true rfl) (Nat.le_of_ble_eq_true rfl) (Nat.le_of_ble_eq_true rfl) (Nat.le_of_ble_eq_true rfl) hlocks (fun t9 hvm9 h91 h92 => ⟨(), trivial, ⟨Or.inr (Or.inl rfl), zThr hH hvm9 h92⟩, zF2 hS h91 h92⟩) hS.2.2 (by decide) (by decide)
set_option maxHeartbeats 4000000 in
set_option maxRecDepth 100000 in
/-- back -/
theorem c_back (l : Launch) (hl0 : l.stackTraces = false) (D : va_G) (A : Nat → Prop) (sad : Nat → Nat) (τ : zTy) (fi : zFi) (fr : zFr) (ol : Int64) (x y z : Int32) (hF : zFix τ fr) (n o : Nat) (hO : zOr τ fi fr n o) (hT : zTh τ fi fr n) : vx_Met l yX11_back wsX11_back ({ frames := 7, cells := 3, slots := 18, locals := 103 }) (va_Pc [.ref (τ.1 0), .int x, .int y, .int z] (zQc D A sad τ fi fr ol)) (va_Qi (fun (r : Int32) (u : zFi) => ∀ i k, ¬ ((1000 ≤ i ∧ i < 1480 ∧ 3 ≤ k) ∨ (300 ≤ i ∧ i < 330 ∧ k = 5) ∨ (500 ≤ i ∧ i < 560 ∧ k = 4)) → u i k = fi i k) (fun (u : zFi) (t : State) => zH D A τ u fr ol t t.heap) A) (vx_X (fun u : Unit => True) (fun (E : String) (u : Unit) (t : State) => (E = "java/lang/IndexOutOfBoundsException" ∨ E = "java/lang/IllegalArgumentException") ∧ zH D A τ fi fr ol t t.heap) A) 3 18 A := by
  refine vx_ofW (cc := cX11_back) (maxL := 6) (ret := (some .boolean)) (by decide) rfl ?_
  intro p9 e9 s m args below meth c9 s₁ B hml ht0 hv
  obtain ⟨rfl, hz, hH, hA⟩ := hv
  have hx := B.exec
  have hb := B.bytes
  have hr := B.returns
  have hts := atoms_spec (ws := wsX11_back) B.pre
  have hown : s.vm.findClass RX11 = some m.cls := findClass_of_methodNamed B.named
  have hlocks := B.notSynchronized
  have hS : va_S A s.heap s.heap [] := va_S.rf
  have hl := lv_entry ([.ref (τ.1 0), .int x, .int y, .int z]) (n := 6) (Nat.le_of_ble_eq_true rfl)
  rw [lg_entry_eq]
  generalize (lg_sl ([.ref (τ.1 0), .int x, .int y, .int z]) ++ List.replicate (6 - (lg_sl ([.ref (τ.1 0), .int x, .int y, .int z])).length) Slot.unset).toArray = ls at hl ⊢
  have hl : lv_has ls 6 [(0, .ref (τ.1 0)), (1, .int x), (2, .int y), (3, .int z)] := hl
  have ho60 := hO.1
  have hn30 := hT.1
  have hiX11 : ∀ w ∈ u_ws RX11 TX11 16, w ∈ wsX11_back := fun _ h => List.mem_cons_of_mem _ (List.mem_append_left _ (List.mem_append_left _ (List.mem_append_left _ (List.mem_append_left _ (List.mem_append_left _ (List.mem_append_left _ (List.mem_append_right _ h)))))))
  have hw1 := hts (.fieldLink RX11 136 "PostHouse" "today" "I") (by decide +kernel)
  have hiX10 : ∀ w ∈ u_ws RX10 TX10 10, w ∈ wsX11_back := fun _ h => List.mem_cons_of_mem _ (List.mem_append_left _ (List.mem_append_left _ (List.mem_append_left _ (List.mem_append_left _ (List.mem_append_left _ (List.mem_append_right _ h))))))
  have hw3 := hts (.fieldLink RX11 303 "PostHouse$Want" "cameLast" "I") (by decide +kernel)
  have hw4 := hts (.fieldLink RX11 33 "PostHouse" "rules" "LPostHouse$Rules;") (by decide +kernel)
  have hiX5 : ∀ w ∈ u_ws RX5 TX5 2, w ∈ wsX11_back := fun _ h => List.mem_cons_of_mem _ (List.mem_append_left _ (List.mem_append_left _ (List.mem_append_left _ (List.mem_append_left _ (List.mem_append_right _ h)))))
  have hw6 := hts (.fieldLink RX11 174 "PostHouse$Rules" "numbers" "[I") (by decide +kernel)
  have hiX3 : ∀ w ∈ u_ws RX3 TX3 6, w ∈ wsX11_back := fun _ h => List.mem_cons_of_mem _ (List.mem_append_left _ (List.mem_append_left _ (List.mem_append_left _ (List.mem_append_right _ h))))
  have hw8 := hts (.fieldLink RX11 261 "PostHouse$Order" "credit" "I") (by decide +kernel)
  have hw9 := hts (.fieldLink RX11 285 "PostHouse$Want" "price" "I") (by decide +kernel)
  have hw10 := hts (.classLink RX11 91 "java/lang/IllegalArgumentException") (by decide +kernel)
  have hw11 := hts (.initialized "java/lang/IllegalArgumentException") (by decide +kernel)
  refine lv_aload_n hx hb dX11_back_0 rfl (lv_at hl 0 rfl) ?_
  refine lv_iload_n hx hb dX11_back_1 rfl (lv_at hl 1 rfl) ?_
  refine vx_callq (vx_runV (As := [.int x]) (rest := []) ⟨hx, hb, hml, hown, hts⟩ (c_orderAt l hl0 D A sad τ fi fr ol x hF n o hO) (cwV 1 hts gX11_back_X11_orderAt rfl rfl rfl (by decide +kernel) ⟨Nat.le_of_ble_eq_true rfl, Nat.le_of_ble_eq_true rfl⟩) ⟨zQc_bl, zRecv hH (zk_0 hF) rfl, zQc_at hz hS hA hH⟩ rfl rfl hl.1 rfl (lv_room (Nat.le_of_ble_eq_true rfl)) dX11_back_2 ⟨Nat.le_of_ble_eq_true rfl, Nat.le_of_ble_eq_true rfl⟩) hS (fun q _ h => h) (fun q h => h) (fun q _ h => h) (fun E ce q9 u9 t9 H1 locs ht9 hvm9 hw hB hz1 hk1 hS hce hcv hcl => ?_) (fun r101 u9 t9 H1 locs ht9 hvm9 hw hB hz1 hk1 hS => ?_)
  · obtain ⟨hX, hB⟩ := hB
    have hH := zMv ht9 hvm9 hB
    generalize H1 = H at hH hS hce ⊢
    exact vx_out (fun x h9 => (ht0 x h9).elim) hlocks hce hcv hcl (fun t9 ht9 hvm9 => ⟨(), trivial, ⟨Or.inl hX.1, zOut hH ht9 hvm9⟩, hS.F ht9⟩) hS.2.2 (by decide) (by decide)
  · skip
    have hH := zMv ht9 hvm9 hB
    generalize H1 = H at hH hS ⊢
    refine W.widen (k := 1) (n := 6) (by decide) (by decide) ?_
    obtain ⟨q, hq, rfl, rfl⟩ := hw
    obtain ⟨wn, hwn, hws5, hws⟩ := (hO.2.2.1 q hq).2.2
    refine lv_astore (lv' := [(4, .ref (τ.1 (500 + q))), (0, .ref (τ.1 0)), (1, .int (nI q)), (2, .int y), (3, .int z)]) hx hb dX11_back_5 hl (by decide) rfl (fun ls hl => ?_)
    refine lv_aload hx hb dX11_back_7 (lv_at hl 0 rfl) ?_
    refine lv_iload_n hx hb dX11_back_9 rfl (lv_at hl 3 rfl) ?_
    refine vx_callq (vx_runS (As := [.ref (τ.1 (500 + q)), .int y]) (rest := []) ⟨hx, hb, hml, hown, hts⟩ (c_wantAt l hl0 D A sad τ fi fr ol y n o hO q hq wn hwn hws5) (cwS 2 hts gX11_back_X11_wantAt rfl rfl rfl (by decide +kernel) ⟨Nat.le_of_ble_eq_true rfl, Nat.le_of_ble_eq_true rfl⟩) ⟨zQc_bl, zQc_at hz hS hA hH⟩ rfl rfl hl.1 rfl (lv_room (Nat.le_of_ble_eq_true rfl)) dX11_back_10 ⟨Nat.le_of_ble_eq_true rfl, Nat.le_of_ble_eq_true rfl⟩) hS (fun q _ h => h) (fun q h => h) (fun q _ h => h) (fun E ce q9 u9 t9 H1 locs ht9 hvm9 hw hB hz1 hk1 hS hce hcv hcl => ?_) (fun r102 u9 t9 H1 locs ht9 hvm9 hw hB hz1 hk1 hS => ?_)
    · obtain ⟨hX, hB⟩ := hB
      have hH := zMv ht9 hvm9 hB
      generalize H1 = H at hH hS hce ⊢
      exact vx_out (fun x h9 => (ht0 x h9).elim) hlocks hce hcv hcl (fun t9 ht9 hvm9 => ⟨(), trivial, ⟨Or.inl hX, zOut hH ht9 hvm9⟩, hS.F ht9⟩) hS.2.2 (by decide) (by decide)
    · skip
      have hH := zMv ht9 hvm9 hB
      generalize H1 = H at hH hS ⊢
      refine W.widen (k := 2) (n := 12) (by decide) (by decide) ?_
      obtain ⟨j, hj, rfl, rfl⟩ := hw
      obtain ⟨wk, -, ⟨wt, hwt, wo0⟩, wo9⟩ := hws j hj
      refine lv_astore (lv' := [(5, .ref (τ.1 (1000 + 8 * q + j))), (4, .ref (τ.1 (500 + q))), (0, .ref (τ.1 0)), (1, .int (nI q)), (2, .int (nI j)), (3, .int z)]) hx hb dX11_back_13 hl (by decide) rfl (fun ls hl => ?_)
      refine lv_iload_n hx hb dX11_back_15 rfl (lv_at hl 5 rfl) ?_
      refine lv_iconst (v := nI 1) hx hb dX11_back_16 (by decide) ?_
      refine lv_bipush (v := nI 99) hx hb dX11_back_17 (by decide) ?_
      refine va_calli (va_runS (As := [.int z, .int (nI 1), .int (nI 99)]) (rest := []) ⟨hx, hb, hml, hown, hts⟩ (c_within l hl0 D A sad τ fi fr ol z (nI 1) (nI 99)) (cwS 3 hts gX11_back_X11_within rfl rfl rfl (by decide +kernel) ⟨Nat.le_of_ble_eq_true rfl, Nat.le_of_ble_eq_true rfl⟩) ⟨zQc_bl, zQc_at hz hS hA hH⟩ rfl rfl hl.1 rfl (lv_room (Nat.le_of_ble_eq_true rfl)) dX11_back_19 ⟨Nat.le_of_ble_eq_true rfl, Nat.le_of_ble_eq_true rfl⟩) hS (fun q _ h => h) (fun q h => h) (fun r103 u9 t9 H1 locs ht9 hvm9 hw hB hz1 hk1 hS => ?_)
      have hH := zMv ht9 hvm9 hB
      generalize H1 = H at hH hS ⊢
      rcases hw with ⟨rfl, hy104⟩ | ⟨rfl, hn105⟩
      · skip
        replace hy104 := zWi1 (rfl) (nI_toInt (by omega)) (nI_toInt (by omega)) hy104
        refine lv_if_ne (tgt := 36) hx hb dX11_back_22 (by decide) (fun c106 => ?_) (fun c106 => absurd c106 (by decide))
        refine lv_iload_n hx hb dX11_back_36 rfl (lv_at hl 5 rfl) ?_
        refine lv_aload hx hb dX11_back_37 (lv_at hl 0 rfl) ?_
        refine va_calli (va_runV (As := []) (rest := [.int z]) ⟨hx, hb, hml, hown, hts⟩ (c_piecesOut l hl0 D A sad τ fi fr ol (1000 + 8 * q + j) wk) (cwV 0 hts gX11_back_X10_piecesOut rfl rfl rfl (by decide +kernel) ⟨Nat.le_of_ble_eq_true rfl, Nat.le_of_ble_eq_true rfl⟩) ⟨zQc_bl, zRecv hH wk rfl, zQc_at hz hS hA hH⟩ rfl rfl hl.1 rfl (lv_room (Nat.le_of_ble_eq_true rfl)) dX11_back_39 ⟨Nat.le_of_ble_eq_true rfl, Nat.le_of_ble_eq_true rfl⟩) hS (fun q _ h => h) (fun q h => h) (fun r107 u9 t9 H1 locs ht9 hvm9 hw hB hz1 hk1 hS => ?_)
        have hH := zMv ht9 hvm9 hB
        generalize H1 = H at hH hS ⊢
        refine lv_icmp_gt (tgt := 67) hx hb dX11_back_42 (by decide) (fun c108 => ?_) (fun c108 => ?_)
        · have zc108 := c108
          replace zc108 := zc_lt (rfl) (rfl) zc108
          refine lv_iconst (v := nI 0) hx hb dX11_back_67 (by decide) ?_
          refine W.widen (k := 3) (n := 18) (by decide) (by decide) ?_
          refine vx_ret ?_
          exact W.zret (v := nI 0) hx hb hr (by decide) (fun t9 ht9 hW9 => ⟨⟨nI 0, fi, rfl, fun _ _ _ => rfl, zEnd1 hH ht9 hW9⟩, hS.F ht9⟩) hS.2.2 dX11_back_68
        · have zc108 := c108
          replace zc108 := zc_nlt (rfl) (rfl) zc108
          refine lv_aload_n hx hb dX11_back_45 rfl (lv_at hl 2 rfl) ?_
          refine zGetI (D := D) (ci := 11) (C := RX11) (T := TX11) (N := 16) hx hb hts hiX11 hown hH (zk_0 hF) rfl 15 (by decide) rfl hw1 (fun _ h9 => h9) dX11_back_46 rfl ?_
          refine lv_aload hx hb dX11_back_49 (lv_at hl 0 rfl) ?_
          refine zGetI (D := D) (ci := 10) (C := RX10) (T := TX10) (N := 10) hx hb hts hiX10 hown hH wk rfl 8 (by decide) rfl hw3 (fun _ h9 => h9) dX11_back_51 rfl ?_
          refine lv_isub hx hb dX11_back_54 ?_
          refine lv_topi (fun v109 ev109 => ?_)
          refine lv_aload_n hx hb dX11_back_55 rfl (lv_at hl 2 rfl) ?_
          refine zGetR (D := D) (ci := 11) (C := RX11) (T := TX11) (N := 16) hx hb hts hiX11 hown hH (zk_0 hF) rfl 3 (by decide) rfl hw4 (fun _ h9 => h9) dX11_back_56 (zr_0_3 hF) ?_
          refine zGetR (D := D) (ci := 5) (C := RX5) (T := TX5) (N := 2) hx hb hts hiX5 hown hH (zk_9 hF) rfl 0 (by decide) rfl hw6 (fun _ h9 => h9) dX11_back_59 (zr_9_0 hF) ?_
          refine lv_iconst (v := nI 3) hx hb dX11_back_62 (by decide) ?_
          refine zIaldN (D := D) hx hb hH (zk_10 hF) (zn_10 hF) (by omega) (by omega) rfl dX11_back_63 ?_
          refine lv_icmp_le (tgt := 69) hx hb dX11_back_64 (by decide) (fun c110 => ?_) (fun c110 => ?_)
          · have zc110 := c110
            replace zc110 := zc_le (rfl) (rfl) zc110
            refine lv_aload hx hb dX11_back_69 (lv_at hl 0 rfl) ?_
            refine lv_iload_n hx hb dX11_back_71 rfl (lv_at hl 5 rfl) ?_
            refine va_callv (va_runV (As := [.int z]) (rest := []) ⟨hx, hb, hml, hown, hts⟩ (c_takeBack l hl0 D A sad τ fi fr ol z n hT (1000 + 8 * q + j) wt wk hwt wo0 wo9 (⟨by omega, by omega⟩)) (cwV 1 hts gX11_back_X10_takeBack rfl rfl rfl (by decide +kernel) ⟨Nat.le_of_ble_eq_true rfl, Nat.le_of_ble_eq_true rfl⟩) ⟨zQc_bl, zRecv hH wk rfl, zQc_at hz hS hA hH⟩ rfl rfl hl.1 rfl (lv_room (Nat.le_of_ble_eq_true rfl)) dX11_back_72 ⟨Nat.le_of_ble_eq_true rfl, Nat.le_of_ble_eq_true rfl⟩) hS (fun q _ h => h) (fun q h => h) (fun u9 t9 H1 locs ht9 hvm9 hw hB hz1 hk1 hS => ?_)
            have hH := zMv ht9 hvm9 hB
            clear hB
            generalize u9 = f112 at hw hH
            generalize H1 = H at hH hS ⊢
            have hf113 := hw
            clear hw
            have q114 : f112 (500 + q) 5 = nI wn := by rw [hf113 (500 + q) 5 (by omega)]; exact hws5
            refine lv_aload hx hb dX11_back_75 (lv_at hl 1 rfl) ?_
            refine lv_dup hx hb dX11_back_77 rfl ?_
            refine zGetI (D := D) (ci := 3) (C := RX3) (T := TX3) (N := 6) hx hb hts hiX3 hown hH (hO.2.2.1 q (by omega)).1.1 rfl 4 (by decide) rfl hw8 (fun _ h9 => h9) dX11_back_78 rfl ?_
            refine lv_iload_n hx hb dX11_back_81 rfl (lv_at hl 5 rfl) ?_
            refine lv_aload hx hb dX11_back_82 (lv_at hl 0 rfl) ?_
            refine zGetI (D := D) (ci := 10) (C := RX10) (T := TX10) (N := 10) hx hb hts hiX10 hown hH wk rfl 2 (by decide) rfl hw9 (fun _ h9 => h9) dX11_back_84 rfl ?_
            refine lv_imul hx hb dX11_back_87 ?_
            refine lv_topi (fun v115 ev115 => ?_)
            refine lv_iadd hx hb dX11_back_88 ?_
            refine lv_topi (fun v116 ev116 => ?_)
            refine zPutI (D := D) (ci := 3) (ty := .int) (C := RX3) (T := TX3) (N := 6) hx hb hts hiX3 tyX3 tyX3_ok nmX3 hown hH hS (hO.2.2.1 q (by omega)).1.1 rfl 4 (by decide) rfl hw8 (fun _ h9 => h9) rfl (by decide +kernel) rfl rfl dX11_back_89 (fun H locs hH hS => ?_)
            obtain ⟨f117, ef117⟩ : ∃ f9 : zFi, f9 = zu f112 (500 + q) 4 v116 := ⟨_, rfl⟩
            rw [← ef117] at hH
            have q118 : f117 (500 + q) 5 = nI wn := by rw [ef117, zu_n (fun h9 => absurd h9.2 (by decide))]; exact q114
            have q119 : f117 (500 + q) 4 = v116 := by rw [ef117]; exact zu_s
            refine lv_iconst (v := nI 1) hx hb dX11_back_92 (by decide) ?_
            refine W.widen (k := 3) (n := 18) (by decide) (by decide) ?_
            refine vx_ret ?_
            exact W.zret (v := nI 1) hx hb hr (by decide) (fun t9 ht9 hW9 => ⟨⟨nI 1, f117, rfl, fun i k h => by rw [ef117, zu_n (by omega), hf113 i k (by omega)], zEnd1 hH ht9 hW9⟩, hS.F ht9⟩) hS.2.2 dX11_back_93
          · have zc110 := c110
            replace zc110 := zc_nle (rfl) (rfl) zc110
            refine lv_iconst (v := nI 0) hx hb dX11_back_67 (by decide) ?_
            refine W.widen (k := 3) (n := 18) (by decide) (by decide) ?_
            refine vx_ret ?_
            exact W.zret (v := nI 0) hx hb hr (by decide) (fun t9 ht9 hW9 => ⟨⟨nI 0, fi, rfl, fun _ _ _ => rfl, zEnd1 hH ht9 hW9⟩, hS.F ht9⟩) hS.2.2 dX11_back_68
      · skip
        replace hn105 := zWi0 (rfl) (nI_toInt (by omega)) (nI_toInt (by omega)) hn105
        refine lv_if_ne (tgt := 36) hx hb dX11_back_22 (by decide) (fun c120 => absurd (by decide) c120) (fun c120 => ?_)
        obtain ⟨a121, ha121⟩ := hz.1.2.2.2.2.1 _ (List.mem_of_getElem? (i := 16) rfl)
        have hat : ∀ w ∈ vx_atS RX11 95 "java/lang/IllegalArgumentException" ["java/lang/RuntimeException", "java/lang/Exception"], w.before _ s = true := vx_hat (fun w h => hts w (List.mem_cons_of_mem _ (List.mem_append_left _ (List.mem_append_right _ h)))) (B := [.castable "java/lang/IllegalArgumentException" "java/lang/IllegalArgumentException", .declares (Bundle.initS "java/lang/RuntimeException"), .declares (Bundle.initS "java/lang/Exception"), .declares (Bundle.initS Bundle.tN)]) (by decide +kernel) (vx_c (va_Nw.use rfl (hz.1.2.2.2.2.2.2.2.1 _ (List.mem_of_getElem? (i := 1) rfl))) (vx_c (va_Nw.use rfl (hz.1.2.2.2.2.2.2.2.2 _ (List.mem_of_getElem? (i := 0) rfl))) (vx_c (va_Nw.use rfl (hz.1.2.2.2.2.2.2.2.2 _ (List.mem_of_getElem? (i := 1) rfl))) (vx_c (va_Nw.use rfl (hz.1.2.2.2.2.2.2.2.2 _ (List.mem_of_getElem? (i := 2) rfl))) vx_n))))
        exact vx_throwSW hx hb hl0 (own := RX11) (cls := "java/lang/IllegalArgumentException") (text := "so many can not come back") (names := ["java/lang/RuntimeException", "java/lang/Exception"]) hown (by decide +kernel) (by decide +kernel) hw10 hw11 ha121 hat (by decide +kernel) hz.1.1 hz.1.2.1 hS (by rw [hml]; exact hl.1) dX11_back_25 dX11_back_28 dX11_back_29 dX11_back_32 dX11_back_35 (fun x h9 => (ht0 x h9).elim) (Nat.le_of_ble_eq_true rfl) (Nat.le_of_ble_eq_true rfl) (Nat.le_of_ble_eq_true rfl) (Nat.le_of_ble_eq_true rfl) hlocks (fun t9 hvm9 h91 h92 => ⟨(), trivial, ⟨Or.inr rfl, zThr hH hvm9 h92⟩, zF2 hS h91 h92⟩) hS.2.2 (by decide) (by decide)
/-- the tape is closed: what is left is wrong, the fault is told, the tape is empty -/
def zClose (fi : zFi) (n a : Nat) (u : zFi) : Prop := ∃ w : Int32, ((¬ fi 1 3 = -1 ∧ w = fi 1 3) ∨ (fi 1 3 = -1 ∧ a < n ∧ w = nI a) ∨ (fi 1 3 = -1 ∧ a = n ∧ w = -1)) ∧ u 0 14 = w ∧ u 1 1 = nI 0 ∧ ∀ i k, ¬ ((i = 0 ∧ k = 14) ∨ (i = 1 ∧ (k = 1 ∨ k = 3))) → u i k = fi i k
theorem zClose.of {fi f g h : zFi} {n a : Nat} (han : a ≤ n) (h1 : (a < n ∧ zRef fi (nI a) f) ∨ (a = n ∧ f = fi)) (h2 : g = zu f 0 14 (f 1 3)) (h3 : h = zu g 1 1 (nI 0)) : zClose fi n a h := by
  refine ⟨f 1 3, ?_, by rw [h3, zu_n (by omega), h2]; exact zu_s, by rw [h3]; exact zu_s, fun i k q => ?_⟩
  · rcases h1 with ⟨q, r⟩ | ⟨q, rfl⟩
    · rcases r with ⟨r1, rfl⟩ | ⟨r1, rfl⟩
      · exact Or.inr (Or.inl ⟨r1, q, zu_s⟩)
      · exact Or.inl ⟨r1, rfl⟩
    · by_cases r : f 1 3 = -1
      · exact Or.inr (Or.inr ⟨r, q, r⟩)
      · exact Or.inl ⟨r, rfl⟩
  · rw [h3, zu_n (by omega), h2, zu_n (by omega)]
    rcases h1 with ⟨_, r⟩ | ⟨_, rfl⟩
    · rcases r with ⟨_, rfl⟩ | ⟨_, rfl⟩
      · exact zu_n (by omega)
      · rfl
    · rfl
set_option maxHeartbeats 4000000 in
set_option maxRecDepth 100000 in
/-- closeTape -/
theorem c_closeTape (l : Launch) (hl0 : l.stackTraces = false) (D : va_G) (A : Nat → Prop) (sad : Nat → Nat) (τ : zTy) (fi : zFi) (fr : zFr) (ol : Int64) (n a : Nat) (hF : zFix τ fr) (hn : fi 1 1 = nI n) (ha : fi 1 2 = nI a) (hn4 : n ≤ 400) (han : a ≤ n) : Met l yX11_closeTape wsX11_closeTape ({ frames := 2, cells := 0, slots := 0, locals := 41 }) (va_Pc [.ref (τ.1 0)] (zQc D A sad τ fi fr ol)) (va_Qv (fun (u : zFi) => zClose fi n a u) (fun (u : zFi) (t : State) => zH D A τ u fr ol t t.heap) A) 0 0 A := by
  refine Met.ofW (cc := cX11_closeTape) (maxL := 1) (ret := none) (by decide) rfl ?_
  intro p9 e9 s m args below meth c9 s₁ B hml hv
  obtain ⟨rfl, hz, hH, hA⟩ := hv
  have hx := B.exec
  have hb := B.bytes
  have hr := B.returns
  have hts := atoms_spec (ws := wsX11_closeTape) B.pre
  have hown : s.vm.findClass RX11 = some m.cls := findClass_of_methodNamed B.named
  have hlocks := B.notSynchronized
  have hS : va_S A s.heap s.heap [] := va_S.rf
  have hl := lv_entry ([.ref (τ.1 0)]) (n := 1) (Nat.le_of_ble_eq_true rfl)
  rw [lg_entry_eq]
  generalize (lg_sl ([.ref (τ.1 0)]) ++ List.replicate (1 - (lg_sl ([.ref (τ.1 0)])).length) Slot.unset).toArray = ls at hl ⊢
  have hl : lv_has ls 1 [(0, .ref (τ.1 0))] := hl
  have hiX11 : ∀ w ∈ u_ws RX11 TX11 16, w ∈ wsX11_closeTape := fun _ h => List.mem_cons_of_mem _ (List.mem_append_left _ (List.mem_append_right _ h))
  have hw1 := hts (.fieldLink RX11 10 "PostHouse" "tape" "LPostHouse$Tape;") (by decide +kernel)
  have hiX7 : ∀ w ∈ u_ws RX7 TX7 4, w ∈ wsX11_closeTape := fun _ h => List.mem_cons_of_mem _ (List.mem_append_right _ h)
  have hw3 := hts (.fieldLink RX11 398 "PostHouse$Tape" "wrong" "I") (by decide +kernel)
  have hw4 := hts (.fieldLink RX11 72 "PostHouse" "fault" "I") (by decide +kernel)
  have hw5 := hts (.fieldLink RX11 84 "PostHouse$Tape" "length" "I") (by decide +kernel)
  refine lv_aload_n hx hb dX11_closeTape_0 rfl (lv_at hl 0 rfl) ?_
  refine zGetR (D := D) (ci := 11) (C := RX11) (T := TX11) (N := 16) hx hb hts hiX11 hown hH (zk_0 hF) rfl 0 (by decide) rfl hw1 (fun _ h9 => h9) dX11_closeTape_1 (zr_0_0 hF) ?_
  refine va_callv (va_runV (As := []) (rest := []) ⟨hx, hb, hml, hown, hts⟩ (t_needEnd l hl0 D A sad τ fi fr ol n a hF hn ha (by omega) (by omega)) (cwV 0 hts gX11_closeTape_X7_needEnd rfl rfl rfl (by decide +kernel) ⟨Nat.le_of_ble_eq_true rfl, Nat.le_of_ble_eq_true rfl⟩) ⟨zQc_bl, zRecv hH (zk_1 hF) rfl, zQc_at hz hS hA hH⟩ rfl rfl hl.1 rfl (lv_room (Nat.le_of_ble_eq_true rfl)) dX11_closeTape_4 ⟨Nat.le_of_ble_eq_true rfl, Nat.le_of_ble_eq_true rfl⟩) hS (fun q _ h => h) (fun q h => h) (fun u9 t9 H1 locs ht9 hvm9 hw hB hz1 hk1 hS => ?_)
  have hH := zMv ht9 hvm9 hB
  clear hB
  generalize u9 = f102 at hw hH
  generalize H1 = H at hH hS ⊢
  have hne103 := hw
  clear hw
  refine lv_aload_n hx hb dX11_closeTape_7 rfl (lv_at hl 0 rfl) ?_
  refine lv_aload_n hx hb dX11_closeTape_8 rfl (lv_at hl 0 rfl) ?_
  refine zGetR (D := D) (ci := 11) (C := RX11) (T := TX11) (N := 16) hx hb hts hiX11 hown hH (zk_0 hF) rfl 0 (by decide) rfl hw1 (fun _ h9 => h9) dX11_closeTape_9 (zr_0_0 hF) ?_
  refine zGetI (D := D) (ci := 7) (C := RX7) (T := TX7) (N := 4) hx hb hts hiX7 hown hH (zk_1 hF) rfl 3 (by decide) rfl hw3 (fun _ h9 => h9) dX11_closeTape_12 rfl ?_
  refine zPutI (D := D) (ci := 11) (ty := .int) (C := RX11) (T := TX11) (N := 16) hx hb hts hiX11 tyX11 tyX11_ok nmX11 hown hH hS (zk_0 hF) rfl 14 (by decide) rfl hw4 (fun _ h9 => h9) rfl (by decide +kernel) rfl rfl dX11_closeTape_15 (fun H locs hH hS => ?_)
  obtain ⟨f104, ef104⟩ : ∃ f9 : zFi, f9 = zu f102 0 14 (f102 1 3) := ⟨_, rfl⟩
  rw [← ef104] at hH
  have q105 : f104 0 14 = f102 1 3 := by rw [ef104]; exact zu_s
  refine lv_aload_n hx hb dX11_closeTape_18 rfl (lv_at hl 0 rfl) ?_
  refine zGetR (D := D) (ci := 11) (C := RX11) (T := TX11) (N := 16) hx hb hts hiX11 hown hH (zk_0 hF) rfl 0 (by decide) rfl hw1 (fun _ h9 => h9) dX11_closeTape_19 (zr_0_0 hF) ?_
  refine lv_iconst (v := nI 0) hx hb dX11_closeTape_22 (by decide) ?_
  refine zPutI (D := D) (ci := 7) (ty := .int) (C := RX7) (T := TX7) (N := 4) hx hb hts hiX7 tyX7 tyX7_ok nmX7 hown hH hS (zk_1 hF) rfl 1 (by decide) rfl hw5 (fun _ h9 => h9) rfl (by decide +kernel) rfl rfl dX11_closeTape_23 (fun H locs hH hS => ?_)
  obtain ⟨f106, ef106⟩ : ∃ f9 : zFi, f9 = zu f104 1 1 (nI 0) := ⟨_, rfl⟩
  rw [← ef106] at hH
  have q107 : f106 0 14 = f102 1 3 := by rw [ef106, zu_n (fun h9 => absurd h9.1 (by decide))]; exact q105
  have q108 : f106 1 1 = nI 0 := by rw [ef106]; exact zu_s
  refine W.widen (k := 0) (n := 0) (by decide) (by decide) ?_
  exact W.vret hx hb hr (fun t9 ht9 hW9 => ⟨⟨f106, rfl, zClose.of han hne103 ef104 ef106, zEnd1 hH ht9 hW9⟩, hS.F ht9⟩) hS.2.2 dX11_closeTape_26
set_option maxHeartbeats 4000000 in
set_option maxRecDepth 100000 in
/-- needRoomForOrder -/
theorem c_needRoom (l : Launch) (hl0 : l.stackTraces = false) (D : va_G) (A : Nat → Prop) (sad : Nat → Nat) (τ : zTy) (fi : zFi) (fr : zFr) (ol : Int64) (o : Nat) (hF : zFix τ fr) (ho : fi 0 11 = nI o) (ho60 : o ≤ 60) : vx_Met l yX11_needRoomForOrder wsX11_needRoomForOrder ({ frames := 6, cells := 1, slots := 6, locals := 82 }) (va_Pc [.ref (τ.1 0)] (zQc D A sad τ fi fr ol)) (va_Qv (fun (u : Unit) => o < 60) (fun (u : Unit) (t : State) => zH D A τ fi fr ol t t.heap) A) (vx_X (fun u : Unit => True) (fun (E : String) (u : Unit) (t : State) => (E = "java/lang/UnsupportedOperationException" ∧ o = 60) ∧ zH D A τ fi fr ol t t.heap) A) 1 6 A := by
  refine vx_ofW (cc := cX11_needRoomForOrder) (maxL := 1) (ret := none) (by decide) rfl ?_
  intro p9 e9 s m args below meth c9 s₁ B hml ht0 hv
  obtain ⟨rfl, hz, hH, hA⟩ := hv
  have hx := B.exec
  have hb := B.bytes
  have hr := B.returns
  have hts := atoms_spec (ws := wsX11_needRoomForOrder) B.pre
  have hown : s.vm.findClass RX11 = some m.cls := findClass_of_methodNamed B.named
  have hlocks := B.notSynchronized
  have hS : va_S A s.heap s.heap [] := va_S.rf
  have hl := lv_entry ([.ref (τ.1 0)]) (n := 1) (Nat.le_of_ble_eq_true rfl)
  rw [lg_entry_eq]
  generalize (lg_sl ([.ref (τ.1 0)]) ++ List.replicate (1 - (lg_sl ([.ref (τ.1 0)])).length) Slot.unset).toArray = ls at hl ⊢
  have hl : lv_has ls 1 [(0, .ref (τ.1 0))] := hl
  have hiX11 : ∀ w ∈ u_ws RX11 TX11 16, w ∈ wsX11_needRoomForOrder := fun _ h => List.mem_cons_of_mem _ (List.mem_append_left _ (List.mem_append_right _ h))
  have hw1 := hts (.fieldLink RX11 366 "PostHouse" "orderCount" "I") (by decide +kernel)
  have hw2 := hts (.classLink RX11 107 "java/lang/UnsupportedOperationException") (by decide +kernel)
  have hw3 := hts (.initialized "java/lang/UnsupportedOperationException") (by decide +kernel)
  refine lv_aload_n hx hb dX11_needRoomForOrder_0 rfl (lv_at hl 0 rfl) ?_
  refine zGetI (D := D) (ci := 11) (C := RX11) (T := TX11) (N := 16) hx hb hts hiX11 hown hH (zk_0 hF) rfl 11 (by decide) rfl hw1 (fun _ h9 => h9) dX11_needRoomForOrder_1 ho ?_
  refine lv_bipush (v := nI 60) hx hb dX11_needRoomForOrder_4 (by decide) ?_
  refine lv_icmp_lt (tgt := 20) hx hb dX11_needRoomForOrder_6 (by decide) (fun c101 => ?_) (fun c101 => ?_)
  · have zc101 := c101
    replace zc101 := zc_lt (nI_toInt (by omega)) (nI_toInt (by omega)) zc101
    refine W.widen (k := 1) (n := 6) (by decide) (by decide) ?_
    refine vx_ret ?_
    exact W.vret hx hb hr (fun t9 ht9 hW9 => ⟨⟨(), rfl, by omega, zEnd1 hH ht9 hW9⟩, hS.F ht9⟩) hS.2.2 dX11_needRoomForOrder_20
  · have zc101 := c101
    replace zc101 := zc_nlt (nI_toInt (by omega)) (nI_toInt (by omega)) zc101
    obtain ⟨a102, ha102⟩ := hz.1.2.2.2.2.1 _ (List.mem_of_getElem? (i := 25) rfl)
    have hat : ∀ w ∈ vx_atS RX11 111 "java/lang/UnsupportedOperationException" ["java/lang/RuntimeException", "java/lang/Exception"], w.before _ s = true := vx_hat (fun w h => hts w (List.mem_cons_of_mem _ (List.mem_append_right _ h))) (B := [.castable "java/lang/UnsupportedOperationException" "java/lang/UnsupportedOperationException", .declares (Bundle.initS "java/lang/RuntimeException"), .declares (Bundle.initS "java/lang/Exception"), .declares (Bundle.initS Bundle.tN)]) (by decide +kernel) (vx_c (va_Nw.use rfl (hz.1.2.2.2.2.2.2.2.1 _ (List.mem_of_getElem? (i := 2) rfl))) (vx_c (va_Nw.use rfl (hz.1.2.2.2.2.2.2.2.2 _ (List.mem_of_getElem? (i := 0) rfl))) (vx_c (va_Nw.use rfl (hz.1.2.2.2.2.2.2.2.2 _ (List.mem_of_getElem? (i := 1) rfl))) (vx_c (va_Nw.use rfl (hz.1.2.2.2.2.2.2.2.2 _ (List.mem_of_getElem? (i := 2) rfl))) vx_n))))
    exact vx_throwSW hx hb hl0 (own := RX11) (cls := "java/lang/UnsupportedOperationException") (text := "there are all the orders that can be") (names := ["java/lang/RuntimeException", "java/lang/Exception"]) hown (by decide +kernel) (by decide +kernel) hw2 hw3 ha102 hat (by decide +kernel) hz.1.1 hz.1.2.1 hS (by rw [hml]; exact hl.1) dX11_needRoomForOrder_9 dX11_needRoomForOrder_12 dX11_needRoomForOrder_13 dX11_needRoomForOrder_16 dX11_needRoomForOrder_19 (fun x h9 => (ht0 x h9).elim) (Nat.le_of_ble_eq_true rfl) (Nat.le_of_ble_eq_true rfl) (Nat.le_of_ble_eq_true rfl) (Nat.le_of_ble_eq_true rfl) hlocks (fun t9 hvm9 h91 h92 => ⟨(), trivial, ⟨⟨rfl, by omega⟩, zThr hH hvm9 h92⟩, zF2 hS h91 h92⟩) hS.2.2 (by decide) (by decide)
