set_option maxHeartbeats 4000000 in
set_option maxRecDepth 100000 in
/-- thingAt -/
theorem c_thingAt (l : Launch) (hl0 : l.stackTraces = false) (D : va_G) (A : Nat → Prop) (sad : Nat → Nat) (τ : zTy) (fi : zFi) (fr : zFr) (ol : Int64) (x : Int32) (hF : zFix τ fr) (n : Nat) (hT : zTh τ fi fr n) : vx_Met l yX11_thingAt wsX11_thingAt ({ frames := 6, cells := 1, slots := 6, locals := 82 }) (va_Pc [.ref (τ.1 0), .int x] (zQc D A sad τ fi fr ol)) (va_Qq (fun (r : Option Nat) (u : Unit) => ∃ t, t < n ∧ x = nI t ∧ r = some (τ.1 (300 + t))) (fun (u : Unit) (t : State) => zH D A τ fi fr ol t t.heap) A) (vx_X (fun u : Unit => True) (fun (E : String) (u : Unit) (t : State) => (E = "java/lang/IndexOutOfBoundsException" ∧ ¬ (0 ≤ x.toInt ∧ x.toInt < (n : Int))) ∧ zH D A τ fi fr ol t t.heap) A) 1 6 A := by
  refine vx_ofW (cc := cX11_thingAt) (maxL := 3) (ret := (some (.object "PostHouse$Thing"))) (by decide) rfl ?_
  intro p9 e9 s m args below meth c9 s₁ B hml ht0 hv
  obtain ⟨rfl, hz, hH, hA⟩ := hv
  have hx := B.exec
  have hb := B.bytes
  have hr := B.returns
  have hts := atoms_spec (ws := wsX11_thingAt) B.pre
  have hown : s.vm.findClass RX11 = some m.cls := findClass_of_methodNamed B.named
  have hlocks := B.notSynchronized
  have hS : va_S A s.heap s.heap [] := va_S.rf
  have hl := lv_entry ([.ref (τ.1 0), .int x]) (n := 3) (Nat.le_of_ble_eq_true rfl)
  rw [lg_entry_eq]
  generalize (lg_sl ([.ref (τ.1 0), .int x]) ++ List.replicate (3 - (lg_sl ([.ref (τ.1 0), .int x])).length) Slot.unset).toArray = ls at hl ⊢
  have hl : lv_has ls 3 [(0, .ref (τ.1 0)), (1, .int x)] := hl
  have hn30 := hT.1
  have hiX11 : ∀ w ∈ u_ws RX11 TX11 16, w ∈ wsX11_thingAt := fun _ h => List.mem_cons_of_mem _ (List.mem_append_left _ (List.mem_append_left _ (List.mem_append_right _ h)))
  have hw1 := hts (.fieldLink RX11 19 "PostHouse" "book" "LPostHouse$Book;") (by decide +kernel)
  have hw2 := hts (.classLink RX11 322 "java/lang/IndexOutOfBoundsException") (by decide +kernel)
  have hw3 := hts (.initialized "java/lang/IndexOutOfBoundsException") (by decide +kernel)
  refine lv_aload_n hx hb dX11_thingAt_0 rfl (lv_at hl 0 rfl) ?_
  refine zGetR (D := D) (ci := 11) (C := RX11) (T := TX11) (N := 16) hx hb hts hiX11 hown hH (zk_0 hF) rfl 1 (by decide) rfl hw1 (fun _ h9 => h9) dX11_thingAt_1 (zr_0_1 hF) ?_
  refine lv_iload_n hx hb dX11_thingAt_4 rfl (lv_at hl 1 rfl) ?_
  refine va_callq (va_runV (As := [.int x]) (rest := []) ⟨hx, hb, hml, hown, hts⟩ (c_at l hl0 D A sad τ fi fr ol x hF n hT) (cwV 1 hts gX11_thingAt_X0_at rfl rfl rfl (by decide +kernel) ⟨Nat.le_of_ble_eq_true rfl, Nat.le_of_ble_eq_true rfl⟩) ⟨zQc_bl, zRecv hH (zk_3 hF) rfl, zQc_at hz hS hA hH⟩ rfl rfl hl.1 rfl (lv_room (Nat.le_of_ble_eq_true rfl)) dX11_thingAt_5 ⟨Nat.le_of_ble_eq_true rfl, Nat.le_of_ble_eq_true rfl⟩) hS (fun q _ h => h) (fun q h => h) (fun r101 u9 t9 H1 locs ht9 hvm9 hw hB hz1 hk1 hS => ?_)
  have hH := zMv ht9 hvm9 hB
  generalize H1 = H at hH hS ⊢
  rcases hw with ⟨t, ht, rfl, rfl⟩ | ⟨hno, rfl⟩
  · skip
    refine lv_astore_n (lv' := [(2, .ref (τ.1 (300 + t))), (0, .ref (τ.1 0)), (1, .int (nI t))]) hx hb dX11_thingAt_8 rfl hl (by decide) rfl (fun ls hl => ?_)
    refine lv_aload_n hx hb dX11_thingAt_9 rfl (lv_at hl 0 rfl) ?_
    refine lv_ifnonnull (tgt := 24) hx hb dX11_thingAt_10 (by decide) ?_
    refine lv_aload_n hx hb dX11_thingAt_24 rfl (lv_at hl 0 rfl) ?_
    refine W.widen (k := 1) (n := 6) (by decide) (by decide) ?_
    refine vx_ret ?_
    exact W.aret (v := .ref (τ.1 (300 + t))) hx hb hr (Or.inl ⟨_, rfl⟩) (Or.inr ⟨_, rfl⟩) (fun t9 ht9 hW9 => ⟨⟨(some (τ.1 (300 + t))), (), rfl, ⟨t, ht, rfl, rfl⟩, zEnd1 hH ht9 hW9⟩, hS.F ht9⟩) hS.2.2 dX11_thingAt_25
  · skip
    refine lv_astore_nN (lv' := [(2, .null), (0, .ref (τ.1 0)), (1, .int x)]) hx hb dX11_thingAt_8 rfl hl (by decide) rfl (fun ls hl => ?_)
    refine lv_aload_nN hx hb dX11_thingAt_9 rfl (lv_at hl 0 rfl) ?_
    refine lv_ifnonnullN hx hb dX11_thingAt_10 ?_
    obtain ⟨a102, ha102⟩ := hz.1.2.2.2.2.1 _ (List.mem_of_getElem? (i := 21) rfl)
    have hat : ∀ w ∈ vx_atS RX11 326 "java/lang/IndexOutOfBoundsException" ["java/lang/RuntimeException", "java/lang/Exception"], w.before _ s = true := vx_hat (fun w h => hts w (List.mem_cons_of_mem _ (List.mem_append_right _ h))) (B := [.castable "java/lang/IndexOutOfBoundsException" "java/lang/IndexOutOfBoundsException", .declares (Bundle.initS "java/lang/RuntimeException"), .declares (Bundle.initS "java/lang/Exception"), .declares (Bundle.initS Bundle.tN)]) (by decide +kernel) (vx_c (va_Nw.use rfl (hz.1.2.2.2.2.2.2.2.1 _ (List.mem_of_getElem? (i := 0) rfl))) (vx_c (va_Nw.use rfl (hz.1.2.2.2.2.2.2.2.2 _ (List.mem_of_getElem? (i := 0) rfl))) (vx_c (va_Nw.use rfl (hz.1.2.2.2.2.2.2.2.2 _ (List.mem_of_getElem? (i := 1) rfl))) (vx_c (va_Nw.use rfl (hz.1.2.2.2.2.2.2.2.2 _ (List.mem_of_getElem? (i := 2) rfl))) vx_n))))
    exact vx_throwSW hx hb hl0 (own := RX11) (cls := "java/lang/IndexOutOfBoundsException") (text := "no such thing") (names := ["java/lang/RuntimeException", "java/lang/Exception"]) hown (by decide +kernel) (by decide +kernel) hw2 hw3 ha102 hat (by decide +kernel) hz.1.1 hz.1.2.1 hS (by rw [hml]; exact hl.1) dX11_thingAt_13 dX11_thingAt_16 dX11_thingAt_17 dX11_thingAt_20 dX11_thingAt_23 (fun x h9 => (ht0 x h9).elim) (Nat.le_of_ble_eq_true rfl) (Nat.le_of_ble_eq_true rfl) (Nat.le_of_ble_eq_true rfl) (Nat.le_of_ble_eq_true rfl) hlocks (fun t9 hvm9 h91 h92 => ⟨(), trivial, ⟨⟨rfl, hno⟩, zThr hH hvm9 h92⟩, zF2 hS h91 h92⟩) hS.2.2 (by decide) (by decide)
set_option maxHeartbeats 4000000 in
set_option maxRecDepth 100000 in
/-- stock -/
theorem c_stock (l : Launch) (hl0 : l.stackTraces = false) (D : va_G) (A : Nat → Prop) (sad : Nat → Nat) (τ : zTy) (fi : zFi) (fr : zFr) (ol : Int64) (x : Int32) (hF : zFix τ fr) (n : Nat) (hT : zTh τ fi fr n) : vx_Met l yX11_stock wsX11_stock ({ frames := 7, cells := 1, slots := 6, locals := 104 }) (va_Pc [.ref (τ.1 0), .int x] (zQc D A sad τ fi fr ol)) (va_Qi (fun (r : Int32) (u : Unit) => True) (fun (u : Unit) (t : State) => zH D A τ fi fr ol t t.heap) A) (vx_X (fun u : Unit => True) (fun (E : String) (u : Unit) (t : State) => (E = "java/lang/IndexOutOfBoundsException" ∧ ¬ (0 ≤ x.toInt ∧ x.toInt < (n : Int))) ∧ zH D A τ fi fr ol t t.heap) A) 1 6 A := by
  refine vx_ofW (cc := cX11_stock) (maxL := 2) (ret := (some .int)) (by decide) rfl ?_
  intro p9 e9 s m args below meth c9 s₁ B hml ht0 hv
  obtain ⟨rfl, hz, hH, hA⟩ := hv
  have hx := B.exec
  have hb := B.bytes
  have hr := B.returns
  have hts := atoms_spec (ws := wsX11_stock) B.pre
  have hown : s.vm.findClass RX11 = some m.cls := findClass_of_methodNamed B.named
  have hlocks := B.notSynchronized
  have hS : va_S A s.heap s.heap [] := va_S.rf
  have hl := lv_entry ([.ref (τ.1 0), .int x]) (n := 2) (Nat.le_of_ble_eq_true rfl)
  rw [lg_entry_eq]
  generalize (lg_sl ([.ref (τ.1 0), .int x]) ++ List.replicate (2 - (lg_sl ([.ref (τ.1 0), .int x])).length) Slot.unset).toArray = ls at hl ⊢
  have hl : lv_has ls 2 [(0, .ref (τ.1 0)), (1, .int x)] := hl
  have hn30 := hT.1
  have hiX8 : ∀ w ∈ u_ws RX8 TX8 10, w ∈ wsX11_stock := fun _ h => List.mem_cons_of_mem _ (List.mem_append_left _ (List.mem_append_left _ (List.mem_append_left _ (List.mem_append_right _ h))))
  have hw1 := hts (.fieldLink RX11 147 "PostHouse$Thing" "stock" "I") (by decide +kernel)
  refine lv_aload_n hx hb dX11_stock_0 rfl (lv_at hl 0 rfl) ?_
  refine lv_iload_n hx hb dX11_stock_1 rfl (lv_at hl 1 rfl) ?_
  refine vx_callq (vx_runV (As := [.int x]) (rest := []) ⟨hx, hb, hml, hown, hts⟩ (c_thingAt l hl0 D A sad τ fi fr ol x hF n hT) (cwV 1 hts gX11_stock_X11_thingAt rfl rfl rfl (by decide +kernel) ⟨Nat.le_of_ble_eq_true rfl, Nat.le_of_ble_eq_true rfl⟩) ⟨zQc_bl, zRecv hH (zk_0 hF) rfl, zQc_at hz hS hA hH⟩ rfl rfl hl.1 rfl (lv_room (Nat.le_of_ble_eq_true rfl)) dX11_stock_2 ⟨Nat.le_of_ble_eq_true rfl, Nat.le_of_ble_eq_true rfl⟩) hS (fun q _ h => h) (fun q h => h) (fun q _ h => h) (fun E ce q9 u9 t9 H1 locs ht9 hvm9 hw hB hz1 hk1 hS hce hcv hcl => ?_) (fun r101 u9 t9 H1 locs ht9 hvm9 hw hB hz1 hk1 hS => ?_)
  · obtain ⟨hX, hB⟩ := hB
    have hH := zMv ht9 hvm9 hB
    generalize H1 = H at hH hS hce ⊢
    exact vx_out (fun x h9 => (ht0 x h9).elim) hlocks hce hcv hcl (fun t9 ht9 hvm9 => ⟨(), trivial, ⟨hX, zOut hH ht9 hvm9⟩, hS.F ht9⟩) hS.2.2 (by decide) (by decide)
  · skip
    have hH := zMv ht9 hvm9 hB
    generalize H1 = H at hH hS ⊢
    refine W.widen (k := 1) (n := 6) (by decide) (by decide) ?_
    obtain ⟨t, ht, rfl, rfl⟩ := hw
    refine zGetI (D := D) (ci := 8) (C := RX8) (T := TX8) (N := 10) hx hb hts hiX8 hown hH (hT.2.2.1 t (by omega)).1.1 rfl 5 (by decide) rfl hw1 (fun _ h9 => h9) dX11_stock_5 rfl ?_
    refine W.widen (k := 1) (n := 6) (by decide) (by decide) ?_
    refine vx_ret ?_
    exact W.iret (v := fi (300 + t) 5) hx hb hr (fun t9 ht9 hW9 => ⟨⟨fi (300 + t) 5, (), rfl, trivial, zEnd1 hH ht9 hW9⟩, hS.F ht9⟩) hS.2.2 dX11_stock_8
set_option maxHeartbeats 4000000 in
set_option maxRecDepth 100000 in
/-- costs -/
theorem c_costs (l : Launch) (hl0 : l.stackTraces = false) (D : va_G) (A : Nat → Prop) (sad : Nat → Nat) (τ : zTy) (fi : zFi) (fr : zFr) (ol : Int64) (x y : Int32) (hF : zFix τ fr) (n : Nat) (hT : zTh τ fi fr n) : vx_Met l yX11_costs wsX11_costs ({ frames := 7, cells := 1, slots := 6, locals := 104 }) (va_Pc [.ref (τ.1 0), .int x, .int y] (zQc D A sad τ fi fr ol)) (va_Qi (fun (r : Int32) (u : Unit) => ∃ t k, t < n ∧ x = nI t ∧ fi (300 + t) 6 = nI k ∧ k ≤ 4 ∧ zMon fi t k y r) (fun (u : Unit) (t : State) => zH D A τ fi fr ol t t.heap) A) (vx_X (fun u : Unit => True) (fun (E : String) (u : Unit) (t : State) => (E = "java/lang/IndexOutOfBoundsException" ∧ ¬ (0 ≤ x.toInt ∧ x.toInt < (n : Int))) ∧ zH D A τ fi fr ol t t.heap) A) 1 6 A := by
  refine vx_ofW (cc := cX11_costs) (maxL := 3) (ret := (some .int)) (by decide) rfl ?_
  intro p9 e9 s m args below meth c9 s₁ B hml ht0 hv
  obtain ⟨rfl, hz, hH, hA⟩ := hv
  have hx := B.exec
  have hb := B.bytes
  have hr := B.returns
  have hts := atoms_spec (ws := wsX11_costs) B.pre
  have hown : s.vm.findClass RX11 = some m.cls := findClass_of_methodNamed B.named
  have hlocks := B.notSynchronized
  have hS : va_S A s.heap s.heap [] := va_S.rf
  have hl := lv_entry ([.ref (τ.1 0), .int x, .int y]) (n := 3) (Nat.le_of_ble_eq_true rfl)
  rw [lg_entry_eq]
  generalize (lg_sl ([.ref (τ.1 0), .int x, .int y]) ++ List.replicate (3 - (lg_sl ([.ref (τ.1 0), .int x, .int y])).length) Slot.unset).toArray = ls at hl ⊢
  have hl : lv_has ls 3 [(0, .ref (τ.1 0)), (1, .int x), (2, .int y)] := hl
  have hn30 := hT.1
  refine lv_aload_n hx hb dX11_costs_0 rfl (lv_at hl 0 rfl) ?_
  refine lv_iload_n hx hb dX11_costs_1 rfl (lv_at hl 1 rfl) ?_
  refine vx_callq (vx_runV (As := [.int x]) (rest := []) ⟨hx, hb, hml, hown, hts⟩ (c_thingAt l hl0 D A sad τ fi fr ol x hF n hT) (cwV 1 hts gX11_costs_X11_thingAt rfl rfl rfl (by decide +kernel) ⟨Nat.le_of_ble_eq_true rfl, Nat.le_of_ble_eq_true rfl⟩) ⟨zQc_bl, zRecv hH (zk_0 hF) rfl, zQc_at hz hS hA hH⟩ rfl rfl hl.1 rfl (lv_room (Nat.le_of_ble_eq_true rfl)) dX11_costs_2 ⟨Nat.le_of_ble_eq_true rfl, Nat.le_of_ble_eq_true rfl⟩) hS (fun q _ h => h) (fun q h => h) (fun q _ h => h) (fun E ce q9 u9 t9 H1 locs ht9 hvm9 hw hB hz1 hk1 hS hce hcv hcl => ?_) (fun r101 u9 t9 H1 locs ht9 hvm9 hw hB hz1 hk1 hS => ?_)
  · obtain ⟨hX, hB⟩ := hB
    have hH := zMv ht9 hvm9 hB
    generalize H1 = H at hH hS hce ⊢
    exact vx_out (fun x h9 => (ht0 x h9).elim) hlocks hce hcv hcl (fun t9 ht9 hvm9 => ⟨(), trivial, ⟨hX, zOut hH ht9 hvm9⟩, hS.F ht9⟩) hS.2.2 (by decide) (by decide)
  · skip
    have hH := zMv ht9 hvm9 hB
    generalize H1 = H at hH hS ⊢
    refine W.widen (k := 1) (n := 6) (by decide) (by decide) ?_
    obtain ⟨t, ht, rfl, rfl⟩ := hw
    obtain ⟨k0, hk4, hk0⟩ := (hT.2.2.1 t (by omega)).2.2.2.2
    refine lv_iload_n hx hb dX11_costs_5 rfl (lv_at hl 2 rfl) ?_
    refine va_calli (va_runV (As := [.int y]) (rest := []) ⟨hx, hb, hml, hown, hts⟩ (c_moneyOn l hl0 D A sad τ fi fr ol y n hT t k0 ht hk0 hk4) (cwV 1 hts gX11_costs_X8_moneyOn rfl rfl rfl (by decide +kernel) ⟨Nat.le_of_ble_eq_true rfl, Nat.le_of_ble_eq_true rfl⟩) ⟨zQc_bl, zRecv hH (hT.2.2.1 t (by omega)).1.1 rfl, zQc_at hz hS hA hH⟩ rfl rfl hl.1 rfl (lv_room (Nat.le_of_ble_eq_true rfl)) dX11_costs_6 ⟨Nat.le_of_ble_eq_true rfl, Nat.le_of_ble_eq_true rfl⟩) hS (fun q _ h => h) (fun q h => h) (fun r102 u9 t9 H1 locs ht9 hvm9 hw hB hz1 hk1 hS => ?_)
    have hH := zMv ht9 hvm9 hB
    generalize H1 = H at hH hS ⊢
    have hmon := hw
    refine W.widen (k := 1) (n := 6) (by decide) (by decide) ?_
    refine vx_ret ?_
    exact W.iret (v := r102) hx hb hr (fun t9 ht9 hW9 => ⟨⟨r102, (), rfl, ⟨t, k0, ht, rfl, hk0, hk4, hmon⟩, zEnd1 hH ht9 hW9⟩, hS.F ht9⟩) hS.2.2 dX11_costs_9
set_option maxHeartbeats 4000000 in
set_option maxRecDepth 100000 in
/-- pick -/
theorem c_pick (l : Launch) (hl0 : l.stackTraces = false) (D : va_G) (A : Nat → Prop) (sad : Nat → Nat) (τ : zTy) (fi : zFi) (fr : zFr) (ol : Int64) (x : Int32) (hF : zFix τ fr) (n : Nat) (hT : zTh τ fi fr n) (p : Nat) (hP : zPk fi fr n p) : vx_Met l yX11_pick wsX11_pick ({ frames := 7, cells := 1, slots := 6, locals := 104 }) (va_Pc [.ref (τ.1 0), .int x] (zQc D A sad τ fi fr ol)) (va_Qi (fun (r : Int32) (u : zFi × zFr) => ∃ b, b < n ∧ x = nI b ∧ ((r = -1 ∧ u.1 = fi ∧ u.2 = fr ∧ ((∃ j, j < p ∧ fr 23 j = some (300 + b)) ∨ p = 10)) ∨ (p < 10 ∧ (∀ j, j < p → ¬ fr 23 j = some (300 + b)) ∧ r = nI (p + 1) ∧ u.1 = zu fi 22 1 (nI (p + 1)) ∧ u.2 = zur fr 23 p (some (300 + b))))) (fun (u : zFi × zFr) (t : State) => zH D A τ u.1 u.2 ol t t.heap) A) (vx_X (fun u : Unit => True) (fun (E : String) (u : Unit) (t : State) => (E = "java/lang/IndexOutOfBoundsException" ∧ ¬ (0 ≤ x.toInt ∧ x.toInt < (n : Int))) ∧ zH D A τ fi fr ol t t.heap) A) 1 6 A := by
  refine vx_ofW (cc := cX11_pick) (maxL := 2) (ret := (some .int)) (by decide) rfl ?_
  intro p9 e9 s m args below meth c9 s₁ B hml ht0 hv
  obtain ⟨rfl, hz, hH, hA⟩ := hv
  have hx := B.exec
  have hb := B.bytes
  have hr := B.returns
  have hts := atoms_spec (ws := wsX11_pick) B.pre
  have hown : s.vm.findClass RX11 = some m.cls := findClass_of_methodNamed B.named
  have hlocks := B.notSynchronized
  have hS : va_S A s.heap s.heap [] := va_S.rf
  have hl := lv_entry ([.ref (τ.1 0), .int x]) (n := 2) (Nat.le_of_ble_eq_true rfl)
  rw [lg_entry_eq]
  generalize (lg_sl ([.ref (τ.1 0), .int x]) ++ List.replicate (2 - (lg_sl ([.ref (τ.1 0), .int x])).length) Slot.unset).toArray = ls at hl ⊢
  have hl : lv_has ls 2 [(0, .ref (τ.1 0)), (1, .int x)] := hl
  have hn30 := hT.1
  have hp10 := hP.1
  have hiX11 : ∀ w ∈ u_ws RX11 TX11 16, w ∈ wsX11_pick := fun _ h => List.mem_cons_of_mem _ (List.mem_append_left _ (List.mem_append_left _ (List.mem_append_left _ (List.mem_append_right _ h))))
  have hw1 := hts (.fieldLink RX11 68 "PostHouse" "walk" "LPostHouse$Walk;") (by decide +kernel)
  refine lv_aload_n hx hb dX11_pick_0 rfl (lv_at hl 0 rfl) ?_
  refine zGetR (D := D) (ci := 11) (C := RX11) (T := TX11) (N := 16) hx hb hts hiX11 hown hH (zk_0 hF) rfl 9 (by decide) rfl hw1 (fun _ h9 => h9) dX11_pick_1 (zr_0_9 hF) ?_
  refine lv_aload_n hx hb dX11_pick_4 rfl (lv_at hl 0 rfl) ?_
  refine lv_iload_n hx hb dX11_pick_5 rfl (lv_at hl 1 rfl) ?_
  refine vx_callq (vx_runV (As := [.int x]) (rest := [.ref (τ.1 22)]) ⟨hx, hb, hml, hown, hts⟩ (c_thingAt l hl0 D A sad τ fi fr ol x hF n hT) (cwV 1 hts gX11_pick_X11_thingAt rfl rfl rfl (by decide +kernel) ⟨Nat.le_of_ble_eq_true rfl, Nat.le_of_ble_eq_true rfl⟩) ⟨zQc_bl, zRecv hH (zk_0 hF) rfl, zQc_at hz hS hA hH⟩ rfl rfl hl.1 rfl (lv_room (Nat.le_of_ble_eq_true rfl)) dX11_pick_6 ⟨Nat.le_of_ble_eq_true rfl, Nat.le_of_ble_eq_true rfl⟩) hS (fun q _ h => h) (fun q h => h) (fun q _ h => h) (fun E ce q9 u9 t9 H1 locs ht9 hvm9 hw hB hz1 hk1 hS hce hcv hcl => ?_) (fun r101 u9 t9 H1 locs ht9 hvm9 hw hB hz1 hk1 hS => ?_)
  · obtain ⟨hX, hB⟩ := hB
    have hH := zMv ht9 hvm9 hB
    generalize H1 = H at hH hS hce ⊢
    exact vx_out (fun x h9 => (ht0 x h9).elim) hlocks hce hcv hcl (fun t9 ht9 hvm9 => ⟨(), trivial, ⟨hX, zOut hH ht9 hvm9⟩, hS.F ht9⟩) hS.2.2 (by decide) (by decide)
  · skip
    have hH := zMv ht9 hvm9 hB
    generalize H1 = H at hH hS ⊢
    refine W.widen (k := 1) (n := 6) (by decide) (by decide) ?_
    obtain ⟨t, ht, rfl, rfl⟩ := hw
    refine va_calli (va_runV (As := [.ref (τ.1 (300 + t))]) (rest := []) ⟨hx, hb, hml, hown, hts⟩ (c_wadd l hl0 D A sad τ fi fr ol hF n hT p hP t ht) (cwV 1 hts gX11_pick_X9_add rfl rfl rfl (by decide +kernel) ⟨Nat.le_of_ble_eq_true rfl, Nat.le_of_ble_eq_true rfl⟩) ⟨zQc_bl, zRecv hH (zk_22 hF) rfl, zQc_at hz hS hA hH⟩ rfl rfl hl.1 rfl (lv_room (Nat.le_of_ble_eq_true rfl)) dX11_pick_9 ⟨Nat.le_of_ble_eq_true rfl, Nat.le_of_ble_eq_true rfl⟩) hS (fun q _ h => h) (fun q h => h) (fun r102 u9 t9 H1 locs ht9 hvm9 hw hB hz1 hk1 hS => ?_)
    obtain ⟨f103, g104⟩ := u9
    have hH := zMv ht9 hvm9 hB
    clear hB
    simp only at hw hH
    generalize H1 = H at hH hS ⊢
    have hwa := hw
    refine W.widen (k := 1) (n := 6) (by decide) (by decide) ?_
    refine vx_ret ?_
    exact W.iret (v := r102) hx hb hr (fun t9 ht9 hW9 => ⟨⟨r102, (f103, g104), rfl, (show ∃ b, b < n ∧ (nI t) = nI b ∧ ((r102 = -1 ∧ f103 = fi ∧ g104 = fr ∧ ((∃ j, j < p ∧ fr 23 j = some (300 + b)) ∨ p = 10)) ∨ (p < 10 ∧ (∀ j, j < p → ¬ fr 23 j = some (300 + b)) ∧ r102 = nI (p + 1) ∧ f103 = zu fi 22 1 (nI (p + 1)) ∧ g104 = zur fr 23 p (some (300 + b)))) from ⟨t, ht, rfl, hwa⟩), zEnd1 hH ht9 hW9⟩, hS.F ht9⟩) hS.2.2 dX11_pick_12
set_option maxHeartbeats 4000000 in
set_option maxRecDepth 100000 in
/-- walk -/
theorem c_walk (l : Launch) (hl0 : l.stackTraces = false) (D : va_G) (A : Nat → Prop) (sad : Nat → Nat) (τ : zTy) (fi : zFi) (fr : zFr) (ol : Int64) (hF : zFix τ fr) (n : Nat) (hT : zTh τ fi fr n) (p : Nat) (hP : zPk fi fr n p) : Met l yX11_walk wsX11_walk ({ frames := 4, cells := 0, slots := 0, locals := 95 }) (va_Pc [.ref (τ.1 0)] (zQc D A sad τ fi fr ol)) (va_Qi (fun (r : Int32) (u : zFi) => u 22 1 = nI 0 ∧ ∀ a b, ¬ (a = 24 ∨ a = 25 ∨ a = 26 ∨ a = 27 ∨ (a = 22 ∧ b = 1)) → u a b = fi a b) (fun (u : zFi) (t : State) => zH D A τ u fr ol t t.heap) A) 0 0 A := by
  refine Met.ofW (cc := cX11_walk) (maxL := 2) (ret := (some .int)) (by decide) rfl ?_
  intro p9 e9 s m args below meth c9 s₁ B hml hv
  obtain ⟨rfl, hz, hH, hA⟩ := hv
  have hx := B.exec
  have hb := B.bytes
  have hr := B.returns
  have hts := atoms_spec (ws := wsX11_walk) B.pre
  have hown : s.vm.findClass RX11 = some m.cls := findClass_of_methodNamed B.named
  have hlocks := B.notSynchronized
  have hS : va_S A s.heap s.heap [] := va_S.rf
  have hl := lv_entry ([.ref (τ.1 0)]) (n := 2) (Nat.le_of_ble_eq_true rfl)
  rw [lg_entry_eq]
  generalize (lg_sl ([.ref (τ.1 0)]) ++ List.replicate (2 - (lg_sl ([.ref (τ.1 0)])).length) Slot.unset).toArray = ls at hl ⊢
  have hl : lv_has ls 2 [(0, .ref (τ.1 0))] := hl
  have hn30 := hT.1
  have hp10 := hP.1
  have hiX11 : ∀ w ∈ u_ws RX11 TX11 16, w ∈ wsX11_walk := fun _ h => List.mem_cons_of_mem _ (List.mem_append_left _ (List.mem_append_left _ (List.mem_append_right _ h)))
  have hw1 := hts (.fieldLink RX11 68 "PostHouse" "walk" "LPostHouse$Walk;") (by decide +kernel)
  have hw2 := hts (.fieldLink RX11 345 "PostHouse$Walk" "size" "I") (by decide +kernel)
  have hiX9 : ∀ w ∈ u_ws RX9 TX9 6, w ∈ wsX11_walk := fun _ h => List.mem_cons_of_mem _ (List.mem_append_left _ (List.mem_append_right _ h))
  refine lv_aload_n hx hb dX11_walk_0 rfl (lv_at hl 0 rfl) ?_
  refine zGetR (D := D) (ci := 11) (C := RX11) (T := TX11) (N := 16) hx hb hts hiX11 hown hH (zk_0 hF) rfl 9 (by decide) rfl hw1 (fun _ h9 => h9) dX11_walk_1 (zr_0_9 hF) ?_
  refine va_calli (va_runV (As := []) (rest := []) ⟨hx, hb, hml, hown, hts⟩ (c_leastSteps l hl0 D A sad τ fi fr ol hF n hT p hP) (cwV 0 hts gX11_walk_X9_leastSteps rfl rfl rfl (by decide +kernel) ⟨Nat.le_of_ble_eq_true rfl, Nat.le_of_ble_eq_true rfl⟩) ⟨zQc_bl, zRecv hH (zk_22 hF) rfl, zQc_at hz hS hA hH⟩ rfl rfl hl.1 rfl (lv_room (Nat.le_of_ble_eq_true rfl)) dX11_walk_4 ⟨Nat.le_of_ble_eq_true rfl, Nat.le_of_ble_eq_true rfl⟩) hS (fun q _ h => h) (fun q h => h) (fun r101 u9 t9 H1 locs ht9 hvm9 hw hB hz1 hk1 hS => ?_)
  have hH := zMv ht9 hvm9 hB
  clear hB
  generalize u9 = f102 at hw hH
  generalize H1 = H at hH hS ⊢
  have hf103 := hw
  clear hw
  refine lv_istore_n (lv' := [(1, .int r101), (0, .ref (τ.1 0))]) hx hb dX11_walk_7 rfl hl (by decide) rfl (fun ls hl => ?_)
  refine lv_aload_n hx hb dX11_walk_8 rfl (lv_at hl 1 rfl) ?_
  refine zGetR (D := D) (ci := 11) (C := RX11) (T := TX11) (N := 16) hx hb hts hiX11 hown hH (zk_0 hF) rfl 9 (by decide) rfl hw1 (fun _ h9 => h9) dX11_walk_9 (zr_0_9 hF) ?_
  refine lv_iconst (v := nI 0) hx hb dX11_walk_12 (by decide) ?_
  refine zPutI (D := D) (ci := 9) (ty := .int) (C := RX9) (T := TX9) (N := 6) hx hb hts hiX9 tyX9 tyX9_ok nmX9 hown hH hS (zk_22 hF) rfl 1 (by decide) rfl hw2 (fun _ h9 => h9) rfl (by decide +kernel) rfl rfl dX11_walk_13 (fun H locs hH hS => ?_)
  obtain ⟨f104, ef104⟩ : ∃ f9 : zFi, f9 = zu f102 22 1 (nI 0) := ⟨_, rfl⟩
  rw [← ef104] at hH
  have q105 : f104 22 1 = nI 0 := by rw [ef104]; exact zu_s
  refine lv_iload_n hx hb dX11_walk_16 rfl (lv_at hl 0 rfl) ?_
  refine W.widen (k := 0) (n := 0) (by decide) (by decide) ?_
  exact W.iret (v := r101) hx hb hr (fun t9 ht9 hW9 => ⟨⟨r101, f104, rfl, ⟨by rw [ef104]; exact zu_s, fun a b h => by rw [ef104, zu_n (by omega)]; exact hf103 a b (by omega)⟩, zEnd1 hH ht9 hW9⟩, hS.F ht9⟩) hS.2.2 dX11_walk_17
set_option maxHeartbeats 4000000 in
set_option maxRecDepth 100000 in
/-- fault -/
theorem c_fault (l : Launch) (hl0 : l.stackTraces = false) (D : va_G) (A : Nat → Prop) (sad : Nat → Nat) (τ : zTy) (fi : zFi) (fr : zFr) (ol : Int64) (hF : zFix τ fr) : Met l yX11_fault wsX11_fault ({ frames := 0, cells := 0, slots := 0, locals := 0 }) (va_Pc [.ref (τ.1 0)] (zQc D A sad τ fi fr ol)) (va_Qi (fun (r : Int32) (u : Unit) => r = fi 0 14) (fun (u : Unit) (t : State) => zH D A τ fi fr ol t t.heap) A) 0 0 A := by
  refine Met.ofW (cc := cX11_fault) (maxL := 1) (ret := (some .int)) (by decide) rfl ?_
  intro p9 e9 s m args below meth c9 s₁ B hml hv
  obtain ⟨rfl, hz, hH, hA⟩ := hv
  have hx := B.exec
  have hb := B.bytes
  have hr := B.returns
  have hts := atoms_spec (ws := wsX11_fault) B.pre
  have hown : s.vm.findClass RX11 = some m.cls := findClass_of_methodNamed B.named
  have hlocks := B.notSynchronized
  have hS : va_S A s.heap s.heap [] := va_S.rf
  have hl := lv_entry ([.ref (τ.1 0)]) (n := 1) (Nat.le_of_ble_eq_true rfl)
  rw [lg_entry_eq]
  generalize (lg_sl ([.ref (τ.1 0)]) ++ List.replicate (1 - (lg_sl ([.ref (τ.1 0)])).length) Slot.unset).toArray = ls at hl ⊢
  have hl : lv_has ls 1 [(0, .ref (τ.1 0))] := hl
  have hiX11 : ∀ w ∈ u_ws RX11 TX11 16, w ∈ wsX11_fault := fun _ h => List.mem_cons_of_mem _ (List.mem_append_right _ h)
  have hw1 := hts (.fieldLink RX11 72 "PostHouse" "fault" "I") (by decide +kernel)
  refine lv_aload_n hx hb dX11_fault_0 rfl (lv_at hl 0 rfl) ?_
  refine zGetI (D := D) (ci := 11) (C := RX11) (T := TX11) (N := 16) hx hb hts hiX11 hown hH (zk_0 hF) rfl 14 (by decide) rfl hw1 (fun _ h9 => h9) dX11_fault_1 rfl ?_
  refine W.widen (k := 0) (n := 0) (by decide) (by decide) ?_
  exact W.iret (v := fi 0 14) hx hb hr (fun t9 ht9 hW9 => ⟨⟨fi 0 14, (), rfl, rfl, zEnd1 hH ht9 hW9⟩, hS.F ht9⟩) hS.2.2 dX11_fault_4
set_option maxHeartbeats 4000000 in
set_option maxRecDepth 100000 in
/-- says -/
theorem c_says (l : Launch) (hl0 : l.stackTraces = false) (D : va_G) (A : Nat → Prop) (sad : Nat → Nat) (τ : zTy) (fi : zFi) (fr : zFr) (ol : Int64) (x : Int32) (hF : zFix τ fr) : vx_Met l yX11_says wsX11_says ({ frames := 6, cells := 1, slots := 6, locals := 82 }) (va_Pc [.ref (τ.1 0), .int x] (zQc D A sad τ fi fr ol)) (va_Qi (fun (r : Int32) (u : Unit) => ∃ k, k < 4 ∧ x = nI k ∧ r = fi 10 k) (fun (u : Unit) (t : State) => zH D A τ fi fr ol t t.heap) A) (vx_X (fun u : Unit => True) (fun (E : String) (u : Unit) (t : State) => (E = "java/util/NoSuchElementException" ∧ ¬ (0 ≤ x.toInt ∧ x.toInt ≤ 3)) ∧ zH D A τ fi fr ol t t.heap) A) 1 6 A := by
  refine vx_ofW (cc := cX11_says) (maxL := 2) (ret := (some .int)) (by decide) rfl ?_
  intro p9 e9 s m args below meth c9 s₁ B hml ht0 hv
  obtain ⟨rfl, hz, hH, hA⟩ := hv
  have hx := B.exec
  have hb := B.bytes
  have hr := B.returns
  have hts := atoms_spec (ws := wsX11_says) B.pre
  have hown : s.vm.findClass RX11 = some m.cls := findClass_of_methodNamed B.named
  have hlocks := B.notSynchronized
  have hS : va_S A s.heap s.heap [] := va_S.rf
  have hl := lv_entry ([.ref (τ.1 0), .int x]) (n := 2) (Nat.le_of_ble_eq_true rfl)
  rw [lg_entry_eq]
  generalize (lg_sl ([.ref (τ.1 0), .int x]) ++ List.replicate (2 - (lg_sl ([.ref (τ.1 0), .int x])).length) Slot.unset).toArray = ls at hl ⊢
  have hl : lv_has ls 2 [(0, .ref (τ.1 0)), (1, .int x)] := hl
  have hiX11 : ∀ w ∈ u_ws RX11 TX11 16, w ∈ wsX11_says := fun _ h => List.mem_cons_of_mem _ (List.mem_append_left _ (List.mem_append_left _ (List.mem_append_right _ h)))
  have hw1 := hts (.fieldLink RX11 33 "PostHouse" "rules" "LPostHouse$Rules;") (by decide +kernel)
  have hiX5 : ∀ w ∈ u_ws RX5 TX5 2, w ∈ wsX11_says := fun _ h => List.mem_cons_of_mem _ (List.mem_append_left _ (List.mem_append_right _ h))
  have hw3 := hts (.fieldLink RX11 174 "PostHouse$Rules" "numbers" "[I") (by decide +kernel)
  have hw4 := hts (.classLink RX11 169 "java/util/NoSuchElementException") (by decide +kernel)
  have hw5 := hts (.initialized "java/util/NoSuchElementException") (by decide +kernel)
  refine lv_iload_n hx hb dX11_says_0 rfl (lv_at hl 1 rfl) ?_
  refine lv_iconst (v := nI 0) hx hb dX11_says_1 (by decide) ?_
  refine lv_iconst (v := nI 3) hx hb dX11_says_2 (by decide) ?_
  refine va_calli (va_runS (As := [.int x, .int (nI 0), .int (nI 3)]) (rest := []) ⟨hx, hb, hml, hown, hts⟩ (c_within l hl0 D A sad τ fi fr ol x (nI 0) (nI 3)) (cwS 3 hts gX11_says_X11_within rfl rfl rfl (by decide +kernel) ⟨Nat.le_of_ble_eq_true rfl, Nat.le_of_ble_eq_true rfl⟩) ⟨zQc_bl, zQc_at hz hS hA hH⟩ rfl rfl hl.1 rfl (lv_room (Nat.le_of_ble_eq_true rfl)) dX11_says_3 ⟨Nat.le_of_ble_eq_true rfl, Nat.le_of_ble_eq_true rfl⟩) hS (fun q _ h => h) (fun q h => h) (fun r101 u9 t9 H1 locs ht9 hvm9 hw hB hz1 hk1 hS => ?_)
  have hH := zMv ht9 hvm9 hB
  generalize H1 = H at hH hS ⊢
  rcases hw with ⟨rfl, hy102⟩ | ⟨rfl, hn103⟩
  · skip
    replace hy102 := zWi1 (rfl) (nI_toInt (by omega)) (nI_toInt (by omega)) hy102
    refine lv_if_ne (tgt := 19) hx hb dX11_says_6 (by decide) (fun c104 => ?_) (fun c104 => absurd c104 (by decide))
    refine lv_aload_n hx hb dX11_says_19 rfl (lv_at hl 0 rfl) ?_
    refine zGetR (D := D) (ci := 11) (C := RX11) (T := TX11) (N := 16) hx hb hts hiX11 hown hH (zk_0 hF) rfl 3 (by decide) rfl hw1 (fun _ h9 => h9) dX11_says_20 (zr_0_3 hF) ?_
    refine zGetR (D := D) (ci := 5) (C := RX5) (T := TX5) (N := 2) hx hb hts hiX5 hown hH (zk_9 hF) rfl 0 (by decide) rfl hw3 (fun _ h9 => h9) dX11_says_23 (zr_9_0 hF) ?_
    refine lv_iload_n hx hb dX11_says_26 rfl (lv_at hl 1 rfl) ?_
    obtain ⟨k, hk, rfl⟩ : ∃ k : Nat, k < 4 ∧ x = nI k := zNatB (by omega) (by omega)
    refine zIaldN (D := D) hx hb hH (zk_10 hF) (zn_10 hF) (by omega) (by omega) rfl dX11_says_27 ?_
    refine W.widen (k := 1) (n := 6) (by decide) (by decide) ?_
    refine vx_ret ?_
    exact W.iret (v := fi 10 k) hx hb hr (fun t9 ht9 hW9 => ⟨⟨fi 10 k, (), rfl, ⟨k, hk, rfl, rfl⟩, zEnd1 hH ht9 hW9⟩, hS.F ht9⟩) hS.2.2 dX11_says_28
  · skip
    replace hn103 := zWi0 (rfl) (nI_toInt (by omega)) (nI_toInt (by omega)) hn103
    refine lv_if_ne (tgt := 19) hx hb dX11_says_6 (by decide) (fun c105 => absurd (by decide) c105) (fun c105 => ?_)
    obtain ⟨a106, ha106⟩ := hz.1.2.2.2.2.1 _ (List.mem_of_getElem? (i := 8) rfl)
    have hat : ∀ w ∈ zAtN RX11 173, w.before _ s = true := vx_hat (fun w h => hts w (List.mem_cons_of_mem _ (List.mem_append_right _ h))) (B := [.castable "java/util/NoSuchElementException" "java/util/NoSuchElementException", .declares (Bundle.initS "java/lang/RuntimeException"), .declares (Bundle.initS "java/lang/Exception"), .declares (Bundle.initS Bundle.tN)]) (by decide +kernel) (vx_c (va_Nw.use rfl (hz.1.2.2.2.2.2.2.2.1 _ (List.mem_of_getElem? (i := 3) rfl))) (vx_c (va_Nw.use rfl (hz.1.2.2.2.2.2.2.2.2 _ (List.mem_of_getElem? (i := 0) rfl))) (vx_c (va_Nw.use rfl (hz.1.2.2.2.2.2.2.2.2 _ (List.mem_of_getElem? (i := 1) rfl))) (vx_c (va_Nw.use rfl (hz.1.2.2.2.2.2.2.2.2 _ (List.mem_of_getElem? (i := 2) rfl))) vx_n))))
    exact zThrowN hx hb hl0 (own := RX11) (text := "the rules say nothing else") hown hw4 hw5 ha106 hat (by decide +kernel) hz.1.1 hz.1.2.1 hS (by rw [hml]; exact hl.1) dX11_says_9 dX11_says_12 dX11_says_13 dX11_says_15 dX11_says_18 (fun x h9 => (ht0 x h9).elim) (Nat.le_of_ble_eq_true rfl) (Nat.le_of_ble_eq_true rfl) (Nat.le_of_ble_eq_true rfl) (Nat.le_of_ble_eq_true rfl) hlocks (fun t9 hvm9 h91 h92 => ⟨(), trivial, ⟨⟨rfl, by have h9 := hn103; omega⟩, zThr hH hvm9 h92⟩, zF2 hS h91 h92⟩) hS.2.2 (by decide) (by decide)
set_option maxHeartbeats 4000000 in
set_option maxRecDepth 100000 in
/-- instead -/
theorem c_instead (l : Launch) (hl0 : l.stackTraces = false) (D : va_G) (A : Nat → Prop) (sad : Nat → Nat) (τ : zTy) (fi : zFi) (fr : zFr) (ol : Int64) (x : Int32) (hF : zFix τ fr) (n : Nat) (hT : zTh τ fi fr n) : vx_Met l yX11_instead wsX11_instead ({ frames := 7, cells := 1, slots := 6, locals := 104 }) (va_Pc [.ref (τ.1 0), .int x] (zQc D A sad τ fi fr ol)) (va_Qi (fun (r : Int32) (u : Unit) => ∃ t, t < n ∧ x = nI t ∧ r = fi 11 t) (fun (u : Unit) (t : State) => zH D A τ fi fr ol t t.heap) A) (vx_X (fun u : Unit => True) (fun (E : String) (u : Unit) (t : State) => (E = "java/lang/IndexOutOfBoundsException" ∧ ¬ (0 ≤ x.toInt ∧ x.toInt < (n : Int))) ∧ zH D A τ fi fr ol t t.heap) A) 1 6 A := by
  refine vx_ofW (cc := cX11_instead) (maxL := 2) (ret := (some .int)) (by decide) rfl ?_
  intro p9 e9 s m args below meth c9 s₁ B hml ht0 hv
  obtain ⟨rfl, hz, hH, hA⟩ := hv
  have hx := B.exec
  have hb := B.bytes
  have hr := B.returns
  have hts := atoms_spec (ws := wsX11_instead) B.pre
  have hown : s.vm.findClass RX11 = some m.cls := findClass_of_methodNamed B.named
  have hlocks := B.notSynchronized
  have hS : va_S A s.heap s.heap [] := va_S.rf
  have hl := lv_entry ([.ref (τ.1 0), .int x]) (n := 2) (Nat.le_of_ble_eq_true rfl)
  rw [lg_entry_eq]
  generalize (lg_sl ([.ref (τ.1 0), .int x]) ++ List.replicate (2 - (lg_sl ([.ref (τ.1 0), .int x])).length) Slot.unset).toArray = ls at hl ⊢
  have hl : lv_has ls 2 [(0, .ref (τ.1 0)), (1, .int x)] := hl
  have hn30 := hT.1
  have hiX11 : ∀ w ∈ u_ws RX11 TX11 16, w ∈ wsX11_instead := fun _ h => List.mem_cons_of_mem _ (List.mem_append_left _ (List.mem_append_left _ (List.mem_append_left _ (List.mem_append_left _ (List.mem_append_right _ h)))))
  have hw1 := hts (.fieldLink RX11 33 "PostHouse" "rules" "LPostHouse$Rules;") (by decide +kernel)
  have hiX5 : ∀ w ∈ u_ws RX5 TX5 2, w ∈ wsX11_instead := fun _ h => List.mem_cons_of_mem _ (List.mem_append_left _ (List.mem_append_left _ (List.mem_append_left _ (List.mem_append_right _ h))))
  have hw3 := hts (.fieldLink RX11 178 "PostHouse$Rules" "places" "[I") (by decide +kernel)
  have hiX8 : ∀ w ∈ u_ws RX8 TX8 10, w ∈ wsX11_instead := fun _ h => List.mem_cons_of_mem _ (List.mem_append_left _ (List.mem_append_left _ (List.mem_append_right _ h)))
  have hw5 := hts (.fieldLink RX11 181 "PostHouse$Thing" "number" "I") (by decide +kernel)
  refine lv_aload_n hx hb dX11_instead_0 rfl (lv_at hl 0 rfl) ?_
  refine zGetR (D := D) (ci := 11) (C := RX11) (T := TX11) (N := 16) hx hb hts hiX11 hown hH (zk_0 hF) rfl 3 (by decide) rfl hw1 (fun _ h9 => h9) dX11_instead_1 (zr_0_3 hF) ?_
  refine zGetR (D := D) (ci := 5) (C := RX5) (T := TX5) (N := 2) hx hb hts hiX5 hown hH (zk_9 hF) rfl 1 (by decide) rfl hw3 (fun _ h9 => h9) dX11_instead_4 (zr_9_1 hF) ?_
  refine lv_aload_n hx hb dX11_instead_7 rfl (lv_at hl 0 rfl) ?_
  refine lv_iload_n hx hb dX11_instead_8 rfl (lv_at hl 1 rfl) ?_
  refine vx_callq (vx_runV (As := [.int x]) (rest := [.ref (τ.1 11)]) ⟨hx, hb, hml, hown, hts⟩ (c_thingAt l hl0 D A sad τ fi fr ol x hF n hT) (cwV 1 hts gX11_instead_X11_thingAt rfl rfl rfl (by decide +kernel) ⟨Nat.le_of_ble_eq_true rfl, Nat.le_of_ble_eq_true rfl⟩) ⟨zQc_bl, zRecv hH (zk_0 hF) rfl, zQc_at hz hS hA hH⟩ rfl rfl hl.1 rfl (lv_room (Nat.le_of_ble_eq_true rfl)) dX11_instead_9 ⟨Nat.le_of_ble_eq_true rfl, Nat.le_of_ble_eq_true rfl⟩) hS (fun q _ h => h) (fun q h => h) (fun q _ h => h) (fun E ce q9 u9 t9 H1 locs ht9 hvm9 hw hB hz1 hk1 hS hce hcv hcl => ?_) (fun r101 u9 t9 H1 locs ht9 hvm9 hw hB hz1 hk1 hS => ?_)
  · obtain ⟨hX, hB⟩ := hB
    have hH := zMv ht9 hvm9 hB
    generalize H1 = H at hH hS hce ⊢
    exact vx_out (fun x h9 => (ht0 x h9).elim) hlocks hce hcv hcl (fun t9 ht9 hvm9 => ⟨(), trivial, ⟨hX, zOut hH ht9 hvm9⟩, hS.F ht9⟩) hS.2.2 (by decide) (by decide)
  · skip
    have hH := zMv ht9 hvm9 hB
    generalize H1 = H at hH hS ⊢
    refine W.widen (k := 1) (n := 6) (by decide) (by decide) ?_
    obtain ⟨t, ht, rfl, rfl⟩ := hw
    refine zGetI (D := D) (ci := 8) (C := RX8) (T := TX8) (N := 10) hx hb hts hiX8 hown hH (hT.2.2.1 t (by omega)).1.1 rfl 0 (by decide) rfl hw5 (fun _ h9 => h9) dX11_instead_12 (hT.2.2.1 t (by omega)).2.2.2.1 ?_
    refine zIaldN (D := D) hx hb hH (zk_11 hF) (zn_11 hF) (by omega) (by omega) rfl dX11_instead_15 ?_
    refine W.widen (k := 1) (n := 6) (by decide) (by decide) ?_
    refine vx_ret ?_
    exact W.iret (v := fi 11 t) hx hb hr (fun t9 ht9 hW9 => ⟨⟨fi 11 t, (), rfl, ⟨t, ht, rfl, rfl⟩, zEnd1 hH ht9 hW9⟩, hS.F ht9⟩) hS.2.2 dX11_instead_16
set_option maxHeartbeats 4000000 in
set_option maxRecDepth 100000 in
/-- price -/
theorem c_price (l : Launch) (hl0 : l.stackTraces = false) (D : va_G) (A : Nat → Prop) (sad : Nat → Nat) (τ : zTy) (fi : zFi) (fr : zFr) (ol : Int64) (x y z w : Int32) (hF : zFix τ fr) (n : Nat) (hT : zTh τ fi fr n) : vx_Met l yX11_price wsX11_price ({ frames := 7, cells := 2, slots := 12, locals := 104 }) (va_Pc [.ref (τ.1 0), .int x, .int y, .int z, .int w] (zQc D A sad τ fi fr ol)) (va_Qi (fun (r : Int32) (u : zFi) => ∃ t k, t < n ∧ x = nI t ∧ (1 ≤ y.toInt ∧ y.toInt ≤ 10000 ∧ 0 ≤ z.toInt ∧ z.toInt ≤ 999 ∧ z.toInt ≤ w.toInt ∧ w.toInt ≤ 999) ∧ fi (300 + t) 6 = nI k ∧ k < 4 ∧ r = nI (k + 1) ∧ u = zu (zu (zu (zu fi (340 + t) k y) (380 + t) k z) (420 + t) k w) (300 + t) 6 (nI (k + 1))) (fun (u : zFi) (t : State) => zH D A τ u fr ol t t.heap) A) (vx_X (fun u : Unit => True) (fun (E : String) (u : Unit) (t : State) => ((E = "java/lang/IndexOutOfBoundsException" ∧ ¬ (0 ≤ x.toInt ∧ x.toInt < (n : Int))) ∨ (E = "java/lang/IllegalArgumentException" ∧ (∃ t, t < n ∧ x = nI t) ∧ ¬ (1 ≤ y.toInt ∧ y.toInt ≤ 10000 ∧ 0 ≤ z.toInt ∧ z.toInt ≤ 999 ∧ z.toInt ≤ w.toInt ∧ w.toInt ≤ 999)) ∨ (E = "java/lang/UnsupportedOperationException" ∧ ∃ t, t < n ∧ x = nI t ∧ (1 ≤ y.toInt ∧ y.toInt ≤ 10000 ∧ 0 ≤ z.toInt ∧ z.toInt ≤ 999 ∧ z.toInt ≤ w.toInt ∧ w.toInt ≤ 999) ∧ fi (300 + t) 6 = nI 4)) ∧ zH D A τ fi fr ol t t.heap) A) 2 12 A := by
  refine vx_ofW (cc := cX11_price) (maxL := 6) (ret := (some .int)) (by decide) rfl ?_
  intro p9 e9 s m args below meth c9 s₁ B hml ht0 hv
  obtain ⟨rfl, hz, hH, hA⟩ := hv
  have hx := B.exec
  have hb := B.bytes
  have hr := B.returns
  have hts := atoms_spec (ws := wsX11_price) B.pre
  have hown : s.vm.findClass RX11 = some m.cls := findClass_of_methodNamed B.named
  have hlocks := B.notSynchronized
  have hS : va_S A s.heap s.heap [] := va_S.rf
  have hl := lv_entry ([.ref (τ.1 0), .int x, .int y, .int z, .int w]) (n := 6) (Nat.le_of_ble_eq_true rfl)
  rw [lg_entry_eq]
  generalize (lg_sl ([.ref (τ.1 0), .int x, .int y, .int z, .int w]) ++ List.replicate (6 - (lg_sl ([.ref (τ.1 0), .int x, .int y, .int z, .int w])).length) Slot.unset).toArray = ls at hl ⊢
  have hl : lv_has ls 6 [(0, .ref (τ.1 0)), (1, .int x), (2, .int y), (3, .int z), (4, .int w)] := hl
  have hn30 := hT.1
  have hiX8 : ∀ w ∈ u_ws RX8 TX8 10, w ∈ wsX11_price := fun _ h => List.mem_cons_of_mem _ (List.mem_append_left _ (List.mem_append_left _ (List.mem_append_left _ (List.mem_append_left _ (List.mem_append_left _ (List.mem_append_right _ h))))))
  have hw1 := hts (.fieldLink RX11 121 "PostHouse$Thing" "prices" "I") (by decide +kernel)
  have hw2 := hts (.classLink RX11 107 "java/lang/UnsupportedOperationException") (by decide +kernel)
  have hw3 := hts (.initialized "java/lang/UnsupportedOperationException") (by decide +kernel)
  have hw4 := hts (.classLink RX11 91 "java/lang/IllegalArgumentException") (by decide +kernel)
  have hw5 := hts (.initialized "java/lang/IllegalArgumentException") (by decide +kernel)
  refine lv_aload_n hx hb dX11_price_0 rfl (lv_at hl 0 rfl) ?_
  refine lv_iload_n hx hb dX11_price_1 rfl (lv_at hl 1 rfl) ?_
  refine vx_callq (vx_runV (As := [.int x]) (rest := []) ⟨hx, hb, hml, hown, hts⟩ (c_thingAt l hl0 D A sad τ fi fr ol x hF n hT) (cwV 1 hts gX11_price_X11_thingAt rfl rfl rfl (by decide +kernel) ⟨Nat.le_of_ble_eq_true rfl, Nat.le_of_ble_eq_true rfl⟩) ⟨zQc_bl, zRecv hH (zk_0 hF) rfl, zQc_at hz hS hA hH⟩ rfl rfl hl.1 rfl (lv_room (Nat.le_of_ble_eq_true rfl)) dX11_price_2 ⟨Nat.le_of_ble_eq_true rfl, Nat.le_of_ble_eq_true rfl⟩) hS (fun q _ h => h) (fun q h => h) (fun q _ h => h) (fun E ce q9 u9 t9 H1 locs ht9 hvm9 hw hB hz1 hk1 hS hce hcv hcl => ?_) (fun r101 u9 t9 H1 locs ht9 hvm9 hw hB hz1 hk1 hS => ?_)
  · obtain ⟨hX, hB⟩ := hB
    have hH := zMv ht9 hvm9 hB
    generalize H1 = H at hH hS hce ⊢
    exact vx_out (fun x h9 => (ht0 x h9).elim) hlocks hce hcv hcl (fun t9 ht9 hvm9 => ⟨(), trivial, ⟨Or.inl hX, zOut hH ht9 hvm9⟩, hS.F ht9⟩) hS.2.2 (by decide) (by decide)
  · skip
    have hH := zMv ht9 hvm9 hB
    generalize H1 = H at hH hS ⊢
    refine W.widen (k := 1) (n := 6) (by decide) (by decide) ?_
    obtain ⟨t, ht, rfl, rfl⟩ := hw
    obtain ⟨k0, hk4, hk0⟩ := (hT.2.2.1 t (by omega)).2.2.2.2
    refine lv_astore (lv' := [(5, .ref (τ.1 (300 + t))), (0, .ref (τ.1 0)), (1, .int (nI t)), (2, .int y), (3, .int z), (4, .int w)]) hx hb dX11_price_5 hl (by decide) rfl (fun ls hl => ?_)
    refine lv_iload_n hx hb dX11_price_7 rfl (lv_at hl 3 rfl) ?_
    refine lv_iconst (v := nI 1) hx hb dX11_price_8 (by decide) ?_
    refine lv_sipush (v := nI 10000) hx hb dX11_price_9 (by decide) ?_
    refine va_calli (va_runS (As := [.int y, .int (nI 1), .int (nI 10000)]) (rest := []) ⟨hx, hb, hml, hown, hts⟩ (c_within l hl0 D A sad τ fi fr ol y (nI 1) (nI 10000)) (cwS 3 hts gX11_price_X11_within rfl rfl rfl (by decide +kernel) ⟨Nat.le_of_ble_eq_true rfl, Nat.le_of_ble_eq_true rfl⟩) ⟨zQc_bl, zQc_at hz hS hA hH⟩ rfl rfl hl.1 rfl (lv_room (Nat.le_of_ble_eq_true rfl)) dX11_price_12 ⟨Nat.le_of_ble_eq_true rfl, Nat.le_of_ble_eq_true rfl⟩) hS (fun q _ h => h) (fun q h => h) (fun r102 u9 t9 H1 locs ht9 hvm9 hw hB hz1 hk1 hS => ?_)
    have hH := zMv ht9 hvm9 hB
    generalize H1 = H at hH hS ⊢
    rcases hw with ⟨rfl, hy103⟩ | ⟨rfl, hn104⟩
    · skip
      replace hy103 := zWi1 (rfl) (nI_toInt (by omega)) (nI_toInt (by omega)) hy103
      refine lv_if_eq (tgt := 41) hx hb dX11_price_15 (by decide) (fun c105 => absurd c105 (by decide)) (fun c105 => ?_)
      refine lv_iload_n hx hb dX11_price_18 rfl (lv_at hl 4 rfl) ?_
      refine lv_iconst (v := nI 0) hx hb dX11_price_19 (by decide) ?_
      refine lv_sipush (v := nI 999) hx hb dX11_price_20 (by decide) ?_
      refine va_calli (va_runS (As := [.int z, .int (nI 0), .int (nI 999)]) (rest := []) ⟨hx, hb, hml, hown, hts⟩ (c_within l hl0 D A sad τ fi fr ol z (nI 0) (nI 999)) (cwS 3 hts gX11_price_X11_within rfl rfl rfl (by decide +kernel) ⟨Nat.le_of_ble_eq_true rfl, Nat.le_of_ble_eq_true rfl⟩) ⟨zQc_bl, zQc_at hz hS hA hH⟩ rfl rfl hl.1 rfl (lv_room (Nat.le_of_ble_eq_true rfl)) dX11_price_23 ⟨Nat.le_of_ble_eq_true rfl, Nat.le_of_ble_eq_true rfl⟩) hS (fun q _ h => h) (fun q h => h) (fun r106 u9 t9 H1 locs ht9 hvm9 hw hB hz1 hk1 hS => ?_)
      have hH := zMv ht9 hvm9 hB
      generalize H1 = H at hH hS ⊢
      rcases hw with ⟨rfl, hy107⟩ | ⟨rfl, hn108⟩
      · skip
        replace hy107 := zWi1 (rfl) (nI_toInt (by omega)) (nI_toInt (by omega)) hy107
        refine lv_if_eq (tgt := 41) hx hb dX11_price_26 (by decide) (fun c109 => absurd c109 (by decide)) (fun c109 => ?_)
        refine lv_iload hx hb dX11_price_29 (lv_at hl 5 rfl) ?_
        refine lv_iload_n hx hb dX11_price_31 rfl (lv_at hl 4 rfl) ?_
        refine lv_sipush (v := nI 999) hx hb dX11_price_32 (by decide) ?_
        refine va_calli (va_runS (As := [.int w, .int z, .int (nI 999)]) (rest := []) ⟨hx, hb, hml, hown, hts⟩ (c_within l hl0 D A sad τ fi fr ol w z (nI 999)) (cwS 3 hts gX11_price_X11_within rfl rfl rfl (by decide +kernel) ⟨Nat.le_of_ble_eq_true rfl, Nat.le_of_ble_eq_true rfl⟩) ⟨zQc_bl, zQc_at hz hS hA hH⟩ rfl rfl hl.1 rfl (lv_room (Nat.le_of_ble_eq_true rfl)) dX11_price_35 ⟨Nat.le_of_ble_eq_true rfl, Nat.le_of_ble_eq_true rfl⟩) hS (fun q _ h => h) (fun q h => h) (fun r110 u9 t9 H1 locs ht9 hvm9 hw hB hz1 hk1 hS => ?_)
        have hH := zMv ht9 hvm9 hB
        generalize H1 = H at hH hS ⊢
        rcases hw with ⟨rfl, hy111⟩ | ⟨rfl, hn112⟩
        · skip
          replace hy111 := zWi1 (rfl) (rfl) (nI_toInt (by omega)) hy111
          refine lv_if_ne (tgt := 51) hx hb dX11_price_38 (by decide) (fun c113 => ?_) (fun c113 => absurd c113 (by decide))
          refine lv_aload hx hb dX11_price_51 (lv_at hl 0 rfl) ?_
          refine zGetI (D := D) (ci := 8) (C := RX8) (T := TX8) (N := 10) hx hb hts hiX8 hown hH (hT.2.2.1 t (by omega)).1.1 rfl 6 (by decide) rfl hw1 (fun _ h9 => h9) dX11_price_53 hk0 ?_
          refine lv_iconst (v := nI 4) hx hb dX11_price_56 (by decide) ?_
          refine lv_icmp_lt (tgt := 70) hx hb dX11_price_57 (by decide) (fun c114 => ?_) (fun c114 => ?_)
          · have zc114 := c114
            replace zc114 := zc_lt (nI_toInt (by omega)) (nI_toInt (by omega)) zc114
            refine lv_aload hx hb dX11_price_70 (lv_at hl 0 rfl) ?_
            refine lv_iload_n hx hb dX11_price_72 rfl (lv_at hl 3 rfl) ?_
            refine lv_iload_n hx hb dX11_price_73 rfl (lv_at hl 4 rfl) ?_
            refine lv_iload hx hb dX11_price_74 (lv_at hl 5 rfl) ?_
            refine va_calli (va_runV (As := [.int y, .int z, .int w]) (rest := []) ⟨hx, hb, hml, hown, hts⟩ (c_addPrice l hl0 D A sad τ fi fr ol y z w n hT t k0 ht hk0 (by omega)) (cwV 3 hts gX11_price_X8_addPrice rfl rfl rfl (by decide +kernel) ⟨Nat.le_of_ble_eq_true rfl, Nat.le_of_ble_eq_true rfl⟩) ⟨zQc_bl, zRecv hH (hT.2.2.1 t (by omega)).1.1 rfl, zQc_at hz hS hA hH⟩ rfl rfl hl.1 rfl (lv_room (Nat.le_of_ble_eq_true rfl)) dX11_price_76 ⟨Nat.le_of_ble_eq_true rfl, Nat.le_of_ble_eq_true rfl⟩) hS (fun q _ h => h) (fun q h => h) (fun r115 u9 t9 H1 locs ht9 hvm9 hw hB hz1 hk1 hS => ?_)
            have hH := zMv ht9 hvm9 hB
            clear hB
            generalize u9 = f116 at hw hH
            generalize H1 = H at hH hS ⊢
            have hap := hw
            refine W.widen (k := 2) (n := 12) (by decide) (by decide) ?_
            refine vx_ret ?_
            exact W.iret (v := r115) hx hb hr (fun t9 ht9 hW9 => ⟨⟨r115, f116, rfl, ⟨t, k0, ht, rfl, by have h1 := hy103; have h2 := hy107; have h3 := hy111; omega, hk0, by omega, hap⟩, zEnd1 hH ht9 hW9⟩, hS.F ht9⟩) hS.2.2 dX11_price_79
          · have zc114 := c114
            replace zc114 := zc_nlt (nI_toInt (by omega)) (nI_toInt (by omega)) zc114
            obtain ⟨a117, ha117⟩ := hz.1.2.2.2.2.1 _ (List.mem_of_getElem? (i := 4) rfl)
            have hat : ∀ w ∈ vx_atS RX11 111 "java/lang/UnsupportedOperationException" ["java/lang/RuntimeException", "java/lang/Exception"], w.before _ s = true := vx_hat (fun w h => hts w (List.mem_cons_of_mem _ (List.mem_append_left _ (List.mem_append_right _ h)))) (B := [.castable "java/lang/UnsupportedOperationException" "java/lang/UnsupportedOperationException", .declares (Bundle.initS "java/lang/RuntimeException"), .declares (Bundle.initS "java/lang/Exception"), .declares (Bundle.initS Bundle.tN)]) (by decide +kernel) (vx_c (va_Nw.use rfl (hz.1.2.2.2.2.2.2.2.1 _ (List.mem_of_getElem? (i := 2) rfl))) (vx_c (va_Nw.use rfl (hz.1.2.2.2.2.2.2.2.2 _ (List.mem_of_getElem? (i := 0) rfl))) (vx_c (va_Nw.use rfl (hz.1.2.2.2.2.2.2.2.2 _ (List.mem_of_getElem? (i := 1) rfl))) (vx_c (va_Nw.use rfl (hz.1.2.2.2.2.2.2.2.2 _ (List.mem_of_getElem? (i := 2) rfl))) vx_n))))
            exact vx_throwS hx hb hl0 (own := RX11) (cls := "java/lang/UnsupportedOperationException") (text := "the thing has all its prices") (names := ["java/lang/RuntimeException", "java/lang/Exception"]) hown (by decide +kernel) (by decide +kernel) hw2 hw3 ha117 hat (by decide +kernel) hz.1.1 hz.1.2.1 hS (by rw [hml]; exact hl.1) dX11_price_60 dX11_price_63 dX11_price_64 dX11_price_66 dX11_price_69 (fun x h9 => (ht0 x h9).elim) (Nat.le_of_ble_eq_true rfl) (Nat.le_of_ble_eq_true rfl) (Nat.le_of_ble_eq_true rfl) (Nat.le_of_ble_eq_true rfl) hlocks (fun t9 hvm9 h91 h92 => ⟨(), trivial, ⟨Or.inr (Or.inr ⟨rfl, t, ht, rfl, by have h1 := hy103; have h2 := hy107; have h3 := hy111; omega, by rw [hk0, show k0 = 4 by omega]⟩), zThr hH hvm9 h92⟩, zF2 hS h91 h92⟩) hS.2.2 (by decide) (by decide)
        · skip
          replace hn112 := zWi0 (rfl) (rfl) (nI_toInt (by omega)) hn112
          refine lv_if_ne (tgt := 51) hx hb dX11_price_38 (by decide) (fun c118 => absurd (by decide) c118) (fun c118 => ?_)
          obtain ⟨a119, ha119⟩ := hz.1.2.2.2.2.1 _ (List.mem_of_getElem? (i := 3) rfl)
          have hat : ∀ w ∈ vx_atS RX11 95 "java/lang/IllegalArgumentException" ["java/lang/RuntimeException", "java/lang/Exception"], w.before _ s = true := vx_hat (fun w h => hts w (List.mem_cons_of_mem _ (List.mem_append_left _ (List.mem_append_left _ (List.mem_append_right _ h))))) (B := [.castable "java/lang/IllegalArgumentException" "java/lang/IllegalArgumentException", .declares (Bundle.initS "java/lang/RuntimeException"), .declares (Bundle.initS "java/lang/Exception"), .declares (Bundle.initS Bundle.tN)]) (by decide +kernel) (vx_c (va_Nw.use rfl (hz.1.2.2.2.2.2.2.2.1 _ (List.mem_of_getElem? (i := 1) rfl))) (vx_c (va_Nw.use rfl (hz.1.2.2.2.2.2.2.2.2 _ (List.mem_of_getElem? (i := 0) rfl))) (vx_c (va_Nw.use rfl (hz.1.2.2.2.2.2.2.2.2 _ (List.mem_of_getElem? (i := 1) rfl))) (vx_c (va_Nw.use rfl (hz.1.2.2.2.2.2.2.2.2 _ (List.mem_of_getElem? (i := 2) rfl))) vx_n))))
          exact vx_throwS hx hb hl0 (own := RX11) (cls := "java/lang/IllegalArgumentException") (text := "a number of the price is out of its bounds") (names := ["java/lang/RuntimeException", "java/lang/Exception"]) hown (by decide +kernel) (by decide +kernel) hw4 hw5 ha119 hat (by decide +kernel) hz.1.1 hz.1.2.1 hS (by rw [hml]; exact hl.1) dX11_price_41 dX11_price_44 dX11_price_45 dX11_price_47 dX11_price_50 (fun x h9 => (ht0 x h9).elim) (Nat.le_of_ble_eq_true rfl) (Nat.le_of_ble_eq_true rfl) (Nat.le_of_ble_eq_true rfl) (Nat.le_of_ble_eq_true rfl) hlocks (fun t9 hvm9 h91 h92 => ⟨(), trivial, ⟨Or.inr (Or.inl ⟨rfl, ⟨t, ht, rfl⟩, fun h9 => by have h8 := hn112; omega⟩), zThr hH hvm9 h92⟩, zF2 hS h91 h92⟩) hS.2.2 (by decide) (by decide)
      · skip
        replace hn108 := zWi0 (rfl) (nI_toInt (by omega)) (nI_toInt (by omega)) hn108
        refine lv_if_eq (tgt := 41) hx hb dX11_price_26 (by decide) (fun c120 => ?_) (fun c120 => absurd (by decide) c120)
        obtain ⟨a121, ha121⟩ := hz.1.2.2.2.2.1 _ (List.mem_of_getElem? (i := 3) rfl)
        have hat : ∀ w ∈ vx_atS RX11 95 "java/lang/IllegalArgumentException" ["java/lang/RuntimeException", "java/lang/Exception"], w.before _ s = true := vx_hat (fun w h => hts w (List.mem_cons_of_mem _ (List.mem_append_left _ (List.mem_append_left _ (List.mem_append_right _ h))))) (B := [.castable "java/lang/IllegalArgumentException" "java/lang/IllegalArgumentException", .declares (Bundle.initS "java/lang/RuntimeException"), .declares (Bundle.initS "java/lang/Exception"), .declares (Bundle.initS Bundle.tN)]) (by decide +kernel) (vx_c (va_Nw.use rfl (hz.1.2.2.2.2.2.2.2.1 _ (List.mem_of_getElem? (i := 1) rfl))) (vx_c (va_Nw.use rfl (hz.1.2.2.2.2.2.2.2.2 _ (List.mem_of_getElem? (i := 0) rfl))) (vx_c (va_Nw.use rfl (hz.1.2.2.2.2.2.2.2.2 _ (List.mem_of_getElem? (i := 1) rfl))) (vx_c (va_Nw.use rfl (hz.1.2.2.2.2.2.2.2.2 _ (List.mem_of_getElem? (i := 2) rfl))) vx_n))))
        exact vx_throwS hx hb hl0 (own := RX11) (cls := "java/lang/IllegalArgumentException") (text := "a number of the price is out of its bounds") (names := ["java/lang/RuntimeException", "java/lang/Exception"]) hown (by decide +kernel) (by decide +kernel) hw4 hw5 ha121 hat (by decide +kernel) hz.1.1 hz.1.2.1 hS (by rw [hml]; exact hl.1) dX11_price_41 dX11_price_44 dX11_price_45 dX11_price_47 dX11_price_50 (fun x h9 => (ht0 x h9).elim) (Nat.le_of_ble_eq_true rfl) (Nat.le_of_ble_eq_true rfl) (Nat.le_of_ble_eq_true rfl) (Nat.le_of_ble_eq_true rfl) hlocks (fun t9 hvm9 h91 h92 => ⟨(), trivial, ⟨Or.inr (Or.inl ⟨rfl, ⟨t, ht, rfl⟩, fun h9 => by have h8 := hn108; omega⟩), zThr hH hvm9 h92⟩, zF2 hS h91 h92⟩) hS.2.2 (by decide) (by decide)
    · skip
      replace hn104 := zWi0 (rfl) (nI_toInt (by omega)) (nI_toInt (by omega)) hn104
      refine lv_if_eq (tgt := 41) hx hb dX11_price_15 (by decide) (fun c122 => ?_) (fun c122 => absurd (by decide) c122)
      obtain ⟨a123, ha123⟩ := hz.1.2.2.2.2.1 _ (List.mem_of_getElem? (i := 3) rfl)
      have hat : ∀ w ∈ vx_atS RX11 95 "java/lang/IllegalArgumentException" ["java/lang/RuntimeException", "java/lang/Exception"], w.before _ s = true := vx_hat (fun w h => hts w (List.mem_cons_of_mem _ (List.mem_append_left _ (List.mem_append_left _ (List.mem_append_right _ h))))) (B := [.castable "java/lang/IllegalArgumentException" "java/lang/IllegalArgumentException", .declares (Bundle.initS "java/lang/RuntimeException"), .declares (Bundle.initS "java/lang/Exception"), .declares (Bundle.initS Bundle.tN)]) (by decide +kernel) (vx_c (va_Nw.use rfl (hz.1.2.2.2.2.2.2.2.1 _ (List.mem_of_getElem? (i := 1) rfl))) (vx_c (va_Nw.use rfl (hz.1.2.2.2.2.2.2.2.2 _ (List.mem_of_getElem? (i := 0) rfl))) (vx_c (va_Nw.use rfl (hz.1.2.2.2.2.2.2.2.2 _ (List.mem_of_getElem? (i := 1) rfl))) (vx_c (va_Nw.use rfl (hz.1.2.2.2.2.2.2.2.2 _ (List.mem_of_getElem? (i := 2) rfl))) vx_n))))
      exact vx_throwS hx hb hl0 (own := RX11) (cls := "java/lang/IllegalArgumentException") (text := "a number of the price is out of its bounds") (names := ["java/lang/RuntimeException", "java/lang/Exception"]) hown (by decide +kernel) (by decide +kernel) hw4 hw5 ha123 hat (by decide +kernel) hz.1.1 hz.1.2.1 hS (by rw [hml]; exact hl.1) dX11_price_41 dX11_price_44 dX11_price_45 dX11_price_47 dX11_price_50 (fun x h9 => (ht0 x h9).elim) (Nat.le_of_ble_eq_true rfl) (Nat.le_of_ble_eq_true rfl) (Nat.le_of_ble_eq_true rfl) (Nat.le_of_ble_eq_true rfl) hlocks (fun t9 hvm9 h91 h92 => ⟨(), trivial, ⟨Or.inr (Or.inl ⟨rfl, ⟨t, ht, rfl⟩, fun h9 => by have h8 := hn104; omega⟩), zThr hH hvm9 h92⟩, zF2 hS h91 h92⟩) hS.2.2 (by decide) (by decide)
