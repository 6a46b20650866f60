set_option maxHeartbeats 4000000 in
set_option maxRecDepth 100000 in
/-- makeOrder -/
theorem c_makeOrder (l : Launch) (hl0 : l.stackTraces = false) (D : va_G) (A : Nat → Prop) (sad : Nat → Nat) (τ : zTy) (fi : zFi) (fr : zFr) (ol : Int64) (hF : zFix τ fr) (n : Nat) (hT : zTh τ fi fr n) (q : Nat) (hq5 : q ≤ 512) (hL : zLk τ fr q) (l0 : Nat) (hl8 : l0 ≤ 8) (hln : fi (3000 + q) 2 = nI l0) (o : Nat) (hO : zOr τ fi fr n o) (ho : o < 60) : Met l yX11_makeOrder wsX11_makeOrder ({ frames := 4, cells := 10, slots := 94, locals := 90 }) (va_Pc [.ref (τ.1 0), .ref (τ.1 (3000 + q))] (zQc D A sad τ fi fr ol)) (va_Qi (fun (r : Int32) (u : zTy × zFi × zFr) => r = nI o ∧ zNO τ fi fr n o u.1 u.2.1 u.2.2) (fun (u : zTy × zFi × zFr) (t : State) => zH D A u.1 u.2.1 u.2.2 ol t t.heap) A) 10 94 A := by
  refine Met.ofW (cc := cX11_makeOrder) (maxL := 6) (ret := (some .int)) (by decide) rfl ?_
  intro p9 e9 s m args below meth c9 s₁ B hml hv
  obtain ⟨rfl, hz, hH, hA⟩ := hv
  have hx := B.exec
  have hb := B.bytes
  have hr := B.returns
  have hts := atoms_spec (ws := wsX11_makeOrder) B.pre
  have hown : s.vm.findClass RX11 = some m.cls := findClass_of_methodNamed B.named
  have hlocks := B.notSynchronized
  have hS : va_S A s.heap s.heap [] := va_S.rf
  have hl := lv_entry ([.ref (τ.1 0), .ref (τ.1 (3000 + q))]) (n := 6) (Nat.le_of_ble_eq_true rfl)
  rw [lg_entry_eq]
  generalize (lg_sl ([.ref (τ.1 0), .ref (τ.1 (3000 + q))]) ++ List.replicate (6 - (lg_sl ([.ref (τ.1 0), .ref (τ.1 (3000 + q))])).length) Slot.unset).toArray = ls at hl ⊢
  have hl : lv_has ls 6 [(0, .ref (τ.1 0)), (1, .ref (τ.1 (3000 + q)))] := hl
  have hn30 := hT.1
  have hT0 := hT
  have hL0 := hL
  have hiX3 : ∀ w ∈ u_ws RX3 TX3 6, w ∈ wsX11_makeOrder := fun _ h => List.mem_cons_of_mem _ (List.mem_append_left _ (List.mem_append_left _ (List.mem_append_left _ (List.mem_append_left _ (List.mem_append_left _ (List.mem_append_left _ (List.mem_append_right _ h)))))))
  have hw1 := hts (.classLink RX11 46 RX3) (by decide +kernel)
  have hw2 := hts (.instantiable RX3 6) (by decide +kernel)
  have hw3 := hts (.initialized RX3) (by decide +kernel)
  have hiX11 : ∀ w ∈ u_ws RX11 TX11 16, w ∈ wsX11_makeOrder := fun _ h => List.mem_cons_of_mem _ (List.mem_append_left _ (List.mem_append_left _ (List.mem_append_left _ (List.mem_append_left _ (List.mem_append_left _ (List.mem_append_right _ h))))))
  have hw5 := hts (.fieldLink RX11 136 "PostHouse" "today" "I") (by decide +kernel)
  have hiX2 : ∀ w ∈ u_ws RX2 TX2 10, w ∈ wsX11_makeOrder := fun _ h => List.mem_cons_of_mem _ (List.mem_append_left _ (List.mem_append_left _ (List.mem_append_left _ (List.mem_append_left _ (List.mem_append_right _ h)))))
  have hw7 := hts (.fieldLink RX11 237 "PostHouse$Letter" "money" "I") (by decide +kernel)
  have hw8 := hts (.fieldLink RX11 33 "PostHouse" "rules" "LPostHouse$Rules;") (by decide +kernel)
  have hw9 := hts (.methodLink RX11 491 yX3_init) (by decide +kernel)
  have hw10 := hts (.instanceMethod yX3_init) (by decide +kernel)
  have hw11 := hts (.fieldLink RX11 228 "PostHouse$Letter" "lines" "I") (by decide +kernel)
  have hw12 := hts (.fieldLink RX11 48 "PostHouse" "orders" "[LPostHouse$Order;") (by decide +kernel)
  have hw13 := hts (.fieldLink RX11 366 "PostHouse" "orderCount" "I") (by decide +kernel)
  have hw14 := hts (.fieldLink RX11 459 "PostHouse$Letter" "codes" "[I") (by decide +kernel)
  have hiX10 : ∀ w ∈ u_ws RX10 TX10 10, w ∈ wsX11_makeOrder := fun _ h => List.mem_cons_of_mem _ (List.mem_append_left _ (List.mem_append_left _ (List.mem_append_left _ (List.mem_append_right _ h))))
  have hw16 := hts (.classLink RX11 277 RX10) (by decide +kernel)
  have hw17 := hts (.instantiable RX10 10) (by decide +kernel)
  have hw18 := hts (.initialized RX10) (by decide +kernel)
  have hw19 := hts (.fieldLink RX11 475 "PostHouse$Letter" "pieces" "[I") (by decide +kernel)
  have hw20 := hts (.methodLink RX11 494 yX10_init) (by decide +kernel)
  have hw21 := hts (.instanceMethod yX10_init) (by decide +kernel)
  refine lv_aload_n hx hb dX11_makeOrder_0 rfl (lv_at hl 0 rfl) ?_
  refine lv_aload_n hx hb dX11_makeOrder_1 rfl (lv_at hl 1 rfl) ?_
  refine va_calli (va_runV (As := [.ref (τ.1 (3000 + q))]) (rest := []) ⟨hx, hb, hml, hown, hts⟩ (c_totalOf l hl0 D A sad τ fi fr ol hF n hT q hq5 hL l0 (by omega) hln) (cwV 1 hts gX11_makeOrder_X11_totalOfKnown rfl rfl rfl (by decide +kernel) ⟨Nat.le_of_ble_eq_true rfl, Nat.le_of_ble_eq_true rfl⟩) ⟨zQc_bl, zRecv hH (zk_0 hF) rfl, zQc_at hz hS hA hH⟩ rfl rfl hl.1 rfl (lv_room (Nat.le_of_ble_eq_true rfl)) dX11_makeOrder_2 ⟨Nat.le_of_ble_eq_true rfl, Nat.le_of_ble_eq_true rfl⟩) hS (fun q _ h => h) (fun q h => h) (fun r101 u9 t9 H1 locs ht9 hvm9 hw hB hz1 hk1 hS => ?_)
  have hH := zMv ht9 hvm9 hB
  generalize H1 = H at hH hS ⊢
  refine lv_istore_n (lv' := [(2, .int r101), (0, .ref (τ.1 0)), (1, .ref (τ.1 (3000 + q)))]) hx hb dX11_makeOrder_5 rfl hl (by decide) rfl (fun ls hl => ?_)
  refine zNew (D := D) (fs := [.int 0, .int 0, .int 0, .null, .int 0, .int 0]) (ci := 3) (C := RX3) (T := TX3) (N := 6) hx hb hts hiX3 tyX3 tyX3_ok hown hw1 hw2 hw3 hH hS hA rfl (500 + o) (hO.2.2.2 o (Nat.le_refl _) ho).1 (fun _ => rfl) (by decide) (Nat.le_of_ble_eq_true rfl) (Nat.le_of_ble_eq_true rfl) dX11_makeOrder_6 (fun q9 c9 H hH8 hS => ?_)
  obtain ⟨τ102, eτ102⟩ : ∃ t9 : zTy, t9 = (va_up τ.1 (500 + o) q9, va_up τ.2.1 (500 + o) c9, va_up τ.2.2.1 (500 + o) 19, va_up τ.2.2.2 (500 + o) 0) := ⟨_, rfl⟩
  obtain ⟨f103, ef103⟩ : ∃ f9 : zFi, f9 = va_up fi (500 + o) (fun _ => 0) := ⟨_, rfl⟩
  obtain ⟨g104, eg104⟩ : ∃ f9 : zFr, f9 = va_up fr (500 + o) (fun _ => none) := ⟨_, rfl⟩
  have hH : zH D A τ102 f103 g104 ol s H := by rw [eτ102, ef103, eg104]; exact hH8
  clear hH8
  have hqτ102 : τ102.1 (500 + o) = q9 := by rw [eτ102]; exact va_up_self _ _ _
  have haτ102 : ∀ i, i ≠ 500 + o → τ102.1 i = τ.1 i := fun i h => by rw [eτ102]; exact va_up_ne _ _ h
  have hkτ102 : τ102.2.2.1 (500 + o) = 19 := by rw [eτ102]; exact va_up_self _ _ _
  have hnτ102 : τ102.2.2.2 (500 + o) = 0 := by rw [eτ102]; exact va_up_self _ _ _
  have hbτ102 : ∀ i, i ≠ 500 + o → τ102.2.2.1 i = τ.2.2.1 i ∧ τ102.2.2.2 i = τ.2.2.2 i := fun i h => by rw [eτ102]; exact ⟨va_up_ne _ _ h, va_up_ne _ _ h⟩
  have hFτ102 : zFix τ102 g104 := by rw [eτ102, eg104]; exact hF.up (by omega)
  clear eτ102
  subst hqτ102
  rw [show τ.1 0 = τ102.1 0 from (haτ102 0 (by omega)).symm] at hl
  rw [show τ.1 (3000 + q) = τ102.1 (3000 + q) from (haτ102 (3000 + q) (by omega)).symm] at hl
  have q105 : f103 (3000 + q) 2 = nI l0 := by rw [ef103, va_up_ne _ _ (by omega)]; exact hln
  have q106 : f103 0 11 = nI o := by rw [ef103, va_up_ne _ _ (by omega)]; exact hO.2.1
  have hT := zTh.cg (τ' := τ102) (fi' := f103) (fr' := g104) hT (fun i9 k9 h9 => by rw [ef103, va_up_ne _ _ (by omega)]) (fun i9 k9 h9 => by rw [eg104, va_up_ne _ _ (by omega)]) (fun i9 h8 h9 => hbτ102 i9 (by omega))
  have hL := zLk.cg (τ' := τ102) (fr' := g104) hL (fun k9 => by rw [eg104, va_up_ne _ _ (by omega)]) (fun i9 h9 => hbτ102 i9 (by omega))
  refine W.widen (k := 1) (n := 6) (by decide) (by decide) ?_
  refine lv_dup hx hb dX11_makeOrder_9 rfl ?_
  refine lv_aload_n hx hb dX11_makeOrder_10 rfl (lv_at hl 1 rfl) ?_
  refine zGetI (D := D) (ci := 11) (C := RX11) (T := TX11) (N := 16) hx hb hts hiX11 hown hH (zk_0 hFτ102) rfl 15 (by decide) rfl hw5 (fun _ h9 => h9) dX11_makeOrder_11 rfl ?_
  refine lv_aload_n hx hb dX11_makeOrder_14 rfl (lv_at hl 2 rfl) ?_
  refine zGetI (D := D) (ci := 2) (C := RX2) (T := TX2) (N := 10) hx hb hts hiX2 hown hH hL.1.1 rfl 4 (by decide) rfl hw7 (fun _ h9 => h9) dX11_makeOrder_15 rfl ?_
  refine lv_aload_n hx hb dX11_makeOrder_18 rfl (lv_at hl 1 rfl) ?_
  refine zGetR (D := D) (ci := 11) (C := RX11) (T := TX11) (N := 16) hx hb hts hiX11 hown hH (zk_0 hFτ102) rfl 3 (by decide) rfl hw8 (fun _ h9 => h9) dX11_makeOrder_19 (zr_0_3 hFτ102) ?_
  refine lv_iload_n hx hb dX11_makeOrder_22 rfl (lv_at hl 0 rfl) ?_
  refine va_calli (va_runV (As := [.int r101]) (rest := [.int (f103 (3000 + q) 4), .int (f103 0 15), .ref (τ102.1 (500 + o)), .ref (τ102.1 (500 + o))]) ⟨hx, hb, hml, hown, hts⟩ (c_postOf l hl0 D A sad τ102 f103 g104 ol r101 hFτ102) (cwV 1 hts gX11_makeOrder_X5_postOf rfl rfl rfl (by decide +kernel) ⟨Nat.le_of_ble_eq_true rfl, Nat.le_of_ble_eq_true rfl⟩) ⟨zQc_bl, zRecv hH (zk_9 hFτ102) rfl, zQc_at hz hS hA hH⟩ rfl rfl hl.1 rfl (lv_room (Nat.le_of_ble_eq_true rfl)) dX11_makeOrder_23 ⟨Nat.le_of_ble_eq_true rfl, Nat.le_of_ble_eq_true rfl⟩) hS (fun q _ h => h) (fun q h => h) (fun r107 u9 t9 H1 locs ht9 hvm9 hw hB hz1 hk1 hS => ?_)
  have hH := zMv ht9 hvm9 hB
  generalize H1 = H at hH hS ⊢
  refine lv_iload_n hx hb dX11_makeOrder_26 rfl (lv_at hl 0 rfl) ?_
  refine va_callv (va_runI (As := [.int (f103 0 15), .int (f103 (3000 + q) 4), .int r107, .int r101]) (rest := [.ref (τ102.1 (500 + o))]) ⟨hx, hb, hml, hown, hts⟩ (c_Order_init l hl0 D A sad τ102 f103 g104 ol hFτ102 o hkτ102 (by rw [(hbτ102 (600 + o) (by omega)).1]; exact (hO.2.2.2 o (Nat.le_refl _) ho).2.1) ho (f103 0 15) (f103 (3000 + q) 4) r107 r101) (cwI 4 hts gX11_makeOrder_X3_init rfl rfl rfl hw3 hw9 hw10 rfl (by decide +kernel) ⟨Nat.le_of_ble_eq_true rfl, Nat.le_of_ble_eq_true rfl⟩) ⟨zQc_bl, zQc_at hz hS hA hH⟩ rfl rfl hl.1 rfl (lv_room (Nat.le_of_ble_eq_true rfl)) dX11_makeOrder_27 ⟨Nat.le_of_ble_eq_true rfl, Nat.le_of_ble_eq_true rfl⟩) hS (fun q _ h => h) (fun q h => h) (fun u9 t9 H1 locs ht9 hvm9 hw hB hz1 hk1 hS => ?_)
  obtain ⟨τ109, f110, g111⟩ := u9
  have hH := zMv ht9 hvm9 hB
  clear hB
  simp only at hw hH
  generalize H1 = H at hH hS ⊢
  refine W.widen (k := 2) (n := 14) (by decide) (by decide) ?_
  obtain ⟨hmk, hof⟩ := zMk.start hO ho haτ102 hkτ102 hbτ102 ef103 eg104 hw
  have hF6 := hw.2.2.1
  have ha6 : ∀ i, i ≠ 600 + o → τ109.1 i = τ102.1 i := fun i h => (hw.1 i h).1
  rw [show τ102.1 0 = τ109.1 0 from (ha6 0 (by omega)).symm] at hl
  rw [show τ102.1 (3000 + q) = τ109.1 (3000 + q) from (ha6 (3000 + q) (by omega)).symm] at hl
  refine W.eq (g2 := F0 m 30 ls [.ref (τ109.1 (500 + o))]) (by rw [ha6 (500 + o) (by omega)]) ?_
  refine lv_astore_n (lv' := [(3, .ref (τ109.1 (500 + o))), (2, .int r101), (0, .ref (τ109.1 0)), (1, .ref (τ109.1 (3000 + q)))]) hx hb dX11_makeOrder_30 rfl hl (by decide) rfl (fun ls hl => ?_)
  refine lv_iconst (v := nI 0) hx hb dX11_makeOrder_31 (by decide) ?_
  refine lv_istore (lv' := [(4, .int (nI 0)), (3, .ref (τ109.1 (500 + o))), (2, .int r101), (0, .ref (τ109.1 0)), (1, .ref (τ109.1 (3000 + q)))]) hx hb dX11_makeOrder_32 hl (by decide) rfl (fun ls hl => ?_)
  refine zLpC (σ := Nat × Nat × zTy × zFi × zFr) (fun x9 => (fun (i : Nat) (w : Nat) (T : zTy) (f : zFi) (g : zFr) => 2 + w) x9.1 x9.2.1 x9.2.2.1 x9.2.2.2.1 x9.2.2.2.2) (fun x9 => (fun (i : Nat) (w : Nat) (T : zTy) (f : zFi) (g : zFr) => 14 + 10 * w) x9.1 x9.2.1 x9.2.2.1 x9.2.2.2.1 x9.2.2.2.2) (fun x9 k9 H locs ls => (fun (i : Nat) (w : Nat) (T : zTy) (f : zFi) (g : zFr) => k9 = l0 - i ∧ (i ≤ l0 ∧ w ≤ i ∧ zMk T f g n o w ∧ zFix T g ∧ zOF τ fi fr o T f g) ∧ zH D A T f g ol s H ∧ va_S A s.heap H locs ∧ lv_has ls 6 [(0, .ref (T.1 0)), (1, .ref (T.1 (3000 + q))), (2, .int r101), (3, .ref (T.1 (500 + o))), (4, .int (nI i))]) x9.1 x9.2.1 x9.2.2.1 x9.2.2.2.1 x9.2.2.2.2) (0, 0, τ109, f110, g111) (l0 - 0) (by simp) (by simp) (show l0 - 0 = l0 - 0 ∧ (0 ≤ l0 ∧ 0 ≤ 0 ∧ zMk τ109 f110 g111 n o 0 ∧ zFix τ109 g111 ∧ zOF τ fi fr o τ109 f110 g111) ∧ zH D A τ109 f110 g111 ol s _ ∧ va_S A s.heap _ _ ∧ lv_has _ 6 [(0, .ref (τ109.1 0)), (1, .ref (τ109.1 (3000 + q))), (2, .int r101), (3, .ref (τ109.1 (500 + o))), (4, .int (nI 0))] from ⟨rfl, ⟨Nat.zero_le _, Nat.le_refl _, hmk, hF6, hof⟩, hH, hS, lv_sub hl [3, 4, 2, 1, 0] rfl⟩) (fun k9 ih x9 H locs ls hv9 => ?_)
  obtain ⟨i, w, T, f, g⟩ := x9
  have hv9 : k9 = l0 - i ∧ (i ≤ l0 ∧ w ≤ i ∧ zMk T f g n o w ∧ zFix T g ∧ zOF τ fi fr o T f g) ∧ zH D A T f g ol s H ∧ va_S A s.heap H locs ∧ lv_has ls 6 [(0, .ref (T.1 0)), (1, .ref (T.1 (3000 + q))), (2, .int r101), (3, .ref (T.1 (500 + o))), (4, .int (nI i))] := hv9
  obtain ⟨hkih112, hv9, hH, hS, hl⟩ := hv9
  show W _ _ _ _ _ _ _ _ _ _ _ _ (2 + w) (14 + 10 * w) _ _
  obtain ⟨h1, hwi, hmk, hFg, hof⟩ := hv9
  have ih112 := ih
  clear ih
  have hT := zTh.cg (τ' := T) (fi' := f) (fr' := g) hT0 (fun i9 k9 h9 => hof.2.1 i9 k9 (by omega)) (fun i9 k9 h9 => hof.2.2.1 i9 k9 (by omega)) (fun i9 h8 h9 => (hof.1 i9 (by omega)).2)
  have hL := zLk.cg (τ' := T) (fr' := g) hL0 (fun k9 => hof.2.2.1 _ k9 (by omega)) (fun i9 h9 => (hof.1 i9 (by omega)).2)
  have hm1 := hmk.2.1
  have p1 : f (3000 + q) 2 = nI l0 := by rw [hof.2.1 _ _ (by omega)]; exact hln
  have p2 : f 0 11 = nI o := by rw [hof.2.1 _ _ (by omega)]; exact hO.2.1
  refine lv_iload hx hb dX11_makeOrder_34 (lv_at hl 4 rfl) ?_
  refine lv_aload_n hx hb dX11_makeOrder_36 rfl (lv_at hl 1 rfl) ?_
  refine zGetI (D := D) (ci := 2) (C := RX2) (T := TX2) (N := 10) hx hb hts hiX2 hown hH hL.1.1 rfl 2 (by decide) rfl hw11 (fun _ h9 => h9) dX11_makeOrder_37 p1 ?_
  refine lv_icmp_ge (tgt := 96) hx hb dX11_makeOrder_40 (by decide) (fun c113 => ?_) (fun c113 => ?_)
  · have zc113 := c113
    replace zc113 := zc_le (nI_toInt (by omega)) (nI_toInt (by omega)) zc113
    refine lv_aload_n hx hb dX11_makeOrder_96 rfl (lv_at hl 0 rfl) ?_
    refine zGetR (D := D) (ci := 11) (C := RX11) (T := TX11) (N := 16) hx hb hts hiX11 hown hH (zk_0 hFg) rfl 6 (by decide) rfl hw12 (fun _ h9 => h9) dX11_makeOrder_97 (zr_0_6 hFg) ?_
    refine lv_aload_n hx hb dX11_makeOrder_100 rfl (lv_at hl 0 rfl) ?_
    refine zGetI (D := D) (ci := 11) (C := RX11) (T := TX11) (N := 16) hx hb hts hiX11 hown hH (zk_0 hFg) rfl 11 (by decide) rfl hw13 (fun _ h9 => h9) dX11_makeOrder_101 p2 ?_
    refine lv_aload_n hx hb dX11_makeOrder_104 rfl (lv_at hl 3 rfl) ?_
    refine zAastS (D := D) (rr := (RX3, TX3, 6)) hx hb hH hS (zk_16 hFg) (by decide) (by decide) rfl hm1.1 rfl (zn_16 hFg) (by omega) (by omega) dX11_makeOrder_105 (fun H locs hH hS => ?_)
    obtain ⟨g114, eg114⟩ : ∃ f9 : zFr, f9 = zur g 16 o (some (500 + o)) := ⟨_, rfl⟩
    rw [← eg114] at hH
    have hF115 : zFix T g114 := by rw [eg114]; exact hFg.ur (by omega)
    refine lv_aload_n hx hb dX11_makeOrder_106 rfl (lv_at hl 0 rfl) ?_
    refine lv_dup hx hb dX11_makeOrder_107 rfl ?_
    refine zGetI (D := D) (ci := 11) (C := RX11) (T := TX11) (N := 16) hx hb hts hiX11 hown hH (zk_0 hF115) rfl 11 (by decide) rfl hw13 (fun _ h9 => h9) dX11_makeOrder_108 p2 ?_
    refine lv_iconst (v := nI 1) hx hb dX11_makeOrder_111 (by decide) ?_
    refine lv_iadd hx hb dX11_makeOrder_112 ?_
    refine lv_topi (fun v116 ev116 => ?_)
    obtain rfl : v116 = nI (o + 1) := ev116.trans (nI_add _ _)
    refine zPutI (D := D) (ci := 11) (ty := .int) (C := RX11) (T := TX11) (N := 16) hx hb hts hiX11 tyX11 tyX11_ok nmX11 hown hH hS (zk_0 hF115) rfl 11 (by decide) rfl hw13 (fun _ h9 => h9) rfl (by decide +kernel) rfl rfl dX11_makeOrder_113 (fun H locs hH hS => ?_)
    obtain ⟨f117, ef117⟩ : ∃ f9 : zFi, f9 = zu f 0 11 (nI (o + 1)) := ⟨_, rfl⟩
    rw [← ef117] at hH
    have q118 : f117 (3000 + q) 2 = nI l0 := by rw [ef117, zu_n (fun h9 => by omega)]; exact p1
    have q119 : f117 (500 + o) 5 = nI w := by rw [ef117, zu_n (fun h9 => by omega)]; exact hmk.2.2.2.1
    have q120 : f117 0 11 = nI (o + 1) := by rw [ef117]; exact zu_s
    refine lv_aload_n hx hb dX11_makeOrder_116 rfl (lv_at hl 0 rfl) ?_
    refine zGetI (D := D) (ci := 11) (C := RX11) (T := TX11) (N := 16) hx hb hts hiX11 hown hH (zk_0 hF115) rfl 11 (by decide) rfl hw13 (fun _ h9 => h9) dX11_makeOrder_117 q120 ?_
    refine lv_iconst (v := nI 1) hx hb dX11_makeOrder_120 (by decide) ?_
    refine lv_isub hx hb dX11_makeOrder_121 ?_
    refine lv_topi (fun v121 ev121 => ?_)
    obtain rfl : v121 = nI ((o + 1) - 1) := ev121.trans (pk_sub (by omega))
    refine W.widen (k := 10) (n := 94) (by omega) (by omega) ?_
    exact W.iret (v := nI ((o + 1) - 1)) hx hb hr (fun t9 ht9 hW9 => ⟨⟨nI ((o + 1) - 1), (T, f117, g114), rfl, (show (nI ((o + 1) - 1)) = nI o ∧ zNO τ fi fr n o T f117 g114 from ⟨by rw [show o + 1 - 1 = o by omega], zMk.done hO ho hmk hof eg114 ef117 hF115⟩), zEnd1 hH ht9 hW9⟩, hS.F ht9⟩) hS.2.2 dX11_makeOrder_122
  · have zc113 := c113
    replace zc113 := zc_nle (nI_toInt (by omega)) (nI_toInt (by omega)) zc113
    refine lv_aload_n hx hb dX11_makeOrder_43 rfl (lv_at hl 0 rfl) ?_
    refine lv_aload_n hx hb dX11_makeOrder_44 rfl (lv_at hl 1 rfl) ?_
    refine zGetR (D := D) (ci := 2) (C := RX2) (T := TX2) (N := 10) hx hb hts hiX2 hown hH hL.1.1 rfl 0 (by decide) rfl hw14 (fun _ h9 => h9) dX11_makeOrder_45 hL.2.2.1 ?_
    refine lv_iload hx hb dX11_makeOrder_48 (lv_at hl 4 rfl) ?_
    refine zIaldN (D := D) hx hb hH hL.1.2.1 hL.2.1.1 (by omega) (by omega) rfl dX11_makeOrder_50 ?_
    refine va_callq (va_runV (As := [.int (f (4000 + q) i)]) (rest := []) ⟨hx, hb, hml, hown, hts⟩ (c_sold l hl0 D A sad T f g ol (f (4000 + q) i) hFg n hT) (cwV 1 hts gX11_makeOrder_X11_soldToday rfl rfl rfl (by decide +kernel) ⟨Nat.le_of_ble_eq_true rfl, Nat.le_of_ble_eq_true rfl⟩) ⟨zQc_bl, zRecv hH (zk_0 hFg) rfl, zQc_at hz hS hA hH⟩ rfl rfl hl.1 rfl (lv_room (Nat.le_of_ble_eq_true rfl)) dX11_makeOrder_51 ⟨by show _ ≤ 10; omega, by show _ ≤ 94; omega⟩) hS (fun q _ h => h) (fun q h => h) (fun r122 u9 t9 H1 locs ht9 hvm9 hw hB hz1 hk1 hS => ?_)
    have hH := zMv ht9 hvm9 hB
    generalize H1 = H at hH hS ⊢
    rcases hw with ⟨t123, ht123, rfl⟩ | rfl
    · skip
      refine lv_astore (lv' := [(5, .ref (T.1 (300 + t123))), (0, .ref (T.1 0)), (1, .ref (T.1 (3000 + q))), (2, .int r101), (3, .ref (T.1 (500 + o))), (4, .int (nI i))]) hx hb dX11_makeOrder_54 hl (by decide) rfl (fun ls hl => ?_)
      refine lv_aload hx hb dX11_makeOrder_56 (lv_at hl 0 rfl) ?_
      refine lv_ifnull hx hb dX11_makeOrder_58 ?_
      refine lv_aload_n hx hb dX11_makeOrder_61 rfl (lv_at hl 4 rfl) ?_
      refine zNew (D := D) (fs := [.null, .int 0, .int 0, .int 0, .int 0, .int 0, .int 0, .int 0, .int 0, .null]) (ci := 10) (C := RX10) (T := TX10) (N := 10) hx hb hts hiX10 tyX10 tyX10_ok hown hw16 hw17 hw18 hH hS hA rfl (1000 + 8 * o + w) (hmk.2.2.2.2.2 w (Nat.le_refl _) (by omega)) (fun _ => rfl) (by decide) (by show _ ≤ 10; omega) (by show _ ≤ 94; omega) dX11_makeOrder_62 (fun q9 c9 H hH8 hS => ?_)
      obtain ⟨τ124, eτ124⟩ : ∃ t9 : zTy, t9 = (va_up T.1 (1000 + 8 * o + w) q9, va_up T.2.1 (1000 + 8 * o + w) c9, va_up T.2.2.1 (1000 + 8 * o + w) 26, va_up T.2.2.2 (1000 + 8 * o + w) 0) := ⟨_, rfl⟩
      obtain ⟨f125, ef125⟩ : ∃ f9 : zFi, f9 = va_up f (1000 + 8 * o + w) (fun _ => 0) := ⟨_, rfl⟩
      obtain ⟨g126, eg126⟩ : ∃ f9 : zFr, f9 = va_up g (1000 + 8 * o + w) (fun _ => none) := ⟨_, rfl⟩
      have hH : zH D A τ124 f125 g126 ol s H := by rw [eτ124, ef125, eg126]; exact hH8
      clear hH8
      have hqτ124 : τ124.1 (1000 + 8 * o + w) = q9 := by rw [eτ124]; exact va_up_self _ _ _
      have haτ124 : ∀ i, i ≠ 1000 + 8 * o + w → τ124.1 i = T.1 i := fun i h => by rw [eτ124]; exact va_up_ne _ _ h
      have hkτ124 : τ124.2.2.1 (1000 + 8 * o + w) = 26 := by rw [eτ124]; exact va_up_self _ _ _
      have hnτ124 : τ124.2.2.2 (1000 + 8 * o + w) = 0 := by rw [eτ124]; exact va_up_self _ _ _
      have hbτ124 : ∀ i, i ≠ 1000 + 8 * o + w → τ124.2.2.1 i = T.2.2.1 i ∧ τ124.2.2.2 i = T.2.2.2 i := fun i h => by rw [eτ124]; exact ⟨va_up_ne _ _ h, va_up_ne _ _ h⟩
      have hFτ124 : zFix τ124 g126 := by rw [eτ124, eg126]; exact hFg.up (by omega)
      clear eτ124
      subst hqτ124
      rw [show T.1 (300 + t123) = τ124.1 (300 + t123) from (haτ124 (300 + t123) (by omega)).symm] at hl
      rw [show T.1 0 = τ124.1 0 from (haτ124 0 (by omega)).symm] at hl
      rw [show T.1 (3000 + q) = τ124.1 (3000 + q) from (haτ124 (3000 + q) (by omega)).symm] at hl
      rw [show T.1 (500 + o) = τ124.1 (500 + o) from (haτ124 (500 + o) (by omega)).symm] at hl
      refine W.eq (g2 := F0 m 65 ls [.ref (τ124.1 (1000 + 8 * o + w)), .ref (τ124.1 (500 + o))]) (by rw [haτ124 (500 + o) (by omega)]) ?_
      have q127 : f125 (3000 + q) 2 = nI l0 := by rw [ef125, va_up_ne _ _ (by omega)]; exact p1
      have q128 : f125 0 11 = nI o := by rw [ef125, va_up_ne _ _ (by omega)]; exact p2
      have q129 : f125 (500 + o) 5 = nI w := by rw [ef125, va_up_ne _ _ (by omega)]; exact hmk.2.2.2.1
      have hT := zTh.cg (τ' := τ124) (fi' := f125) (fr' := g126) hT (fun i9 k9 h9 => by rw [ef125, va_up_ne _ _ (by omega)]) (fun i9 k9 h9 => by rw [eg126, va_up_ne _ _ (by omega)]) (fun i9 h8 h9 => hbτ124 i9 (by omega))
      have hL := zLk.cg (τ' := τ124) (fr' := g126) hL (fun k9 => by rw [eg126, va_up_ne _ _ (by omega)]) (fun i9 h9 => hbτ124 i9 (by omega))
      refine lv_dup hx hb dX11_makeOrder_65 rfl ?_
      refine lv_aload hx hb dX11_makeOrder_66 (lv_at hl 0 rfl) ?_
      refine lv_aload_n hx hb dX11_makeOrder_68 rfl (lv_at hl 2 rfl) ?_
      refine zGetR (D := D) (ci := 2) (C := RX2) (T := TX2) (N := 10) hx hb hts hiX2 hown hH hL.1.1 rfl 1 (by decide) rfl hw19 (fun _ h9 => h9) dX11_makeOrder_69 hL.2.2.2 ?_
      refine lv_iload hx hb dX11_makeOrder_72 (lv_at hl 5 rfl) ?_
      refine zIaldN (D := D) hx hb hH hL.1.2.2 hL.2.1.2 (by omega) (by omega) rfl dX11_makeOrder_74 ?_
      refine lv_aload hx hb dX11_makeOrder_75 (lv_at hl 0 rfl) ?_
      refine lv_aload_n hx hb dX11_makeOrder_77 rfl (lv_at hl 1 rfl) ?_
      refine zGetI (D := D) (ci := 11) (C := RX11) (T := TX11) (N := 16) hx hb hts hiX11 hown hH (zk_0 hFτ124) rfl 15 (by decide) rfl hw5 (fun _ h9 => h9) dX11_makeOrder_78 rfl ?_
      obtain ⟨k130, h4k130, h0k130⟩ := (hT.2.2.1 t123 (by omega)).2.2.2.2
      refine va_calli (va_runV (As := [.int (f125 0 15)]) (rest := [.int (f125 (5000 + q) i), .ref (τ124.1 (300 + t123)), .ref (τ124.1 (1000 + 8 * o + w)), .ref (τ124.1 (1000 + 8 * o + w)), .ref (τ124.1 (500 + o))]) ⟨hx, hb, hml, hown, hts⟩ (c_moneyOn l hl0 D A sad τ124 f125 g126 ol (f125 0 15) n hT t123 k130 (by omega) h0k130 h4k130) (cwV 1 hts gX11_makeOrder_X8_moneyOn rfl rfl rfl (by decide +kernel) ⟨Nat.le_of_ble_eq_true rfl, Nat.le_of_ble_eq_true rfl⟩) ⟨zQc_bl, zRecv hH (hT.2.2.1 t123 (by omega)).1.1 rfl, zQc_at hz hS hA hH⟩ rfl rfl hl.1 rfl (lv_room (Nat.le_of_ble_eq_true rfl)) dX11_makeOrder_81 ⟨by show _ ≤ 10; omega, by show _ ≤ 94; omega⟩) hS (fun q _ h => h) (fun q h => h) (fun r131 u9 t9 H1 locs ht9 hvm9 hw hB hz1 hk1 hS => ?_)
      have hH := zMv ht9 hvm9 hB
      generalize H1 = H at hH hS ⊢
      refine va_callv (va_runI (As := [.ref (τ124.1 (300 + t123)), .int (f125 (5000 + q) i), .int r131]) (rest := [.ref (τ124.1 (1000 + 8 * o + w)), .ref (τ124.1 (500 + o))]) ⟨hx, hb, hml, hown, hts⟩ (c_Want_init l hl0 D A sad τ124 f125 g126 ol hFτ124 n hT (1000 + 8 * o + w) t123 hkτ124 (by omega) (by omega) (f125 (5000 + q) i) r131) (cwI 3 hts gX11_makeOrder_X10_init rfl rfl rfl hw18 hw20 hw21 rfl (by decide +kernel) ⟨Nat.le_of_ble_eq_true rfl, Nat.le_of_ble_eq_true rfl⟩) ⟨zQc_bl, zQc_at hz hS hA hH⟩ rfl rfl hl.1 rfl (lv_room (Nat.le_of_ble_eq_true rfl)) dX11_makeOrder_84 ⟨by show _ ≤ 10; omega, by show _ ≤ 94; omega⟩) hS (fun q _ h => h) (fun q h => h) (fun u9 t9 H1 locs ht9 hvm9 hw hB hz1 hk1 hS => ?_)
      obtain ⟨f133, g134⟩ := u9
      have hH := zMv ht9 hvm9 hB
      clear hB
      simp only at hw hH
      generalize H1 = H at hH hS ⊢
      have hwi135 := hw
      clear hw
      have hF7 : zFix τ124 g134 := by rw [hwi135.2]; exact hFτ124.ur (by omega)
      have q136 : f133 (500 + o) 5 = nI w := by rw [hwi135.1, zu_n (by omega), zu_n (by omega), zu_n (by omega)]; exact q129
      have hor7 : g134 (500 + o) 3 = some (600 + o) := by rw [hwi135.2, zur_n (by omega), eg126, va_up_ne _ _ (by omega)]; exact hmk.2.2.1
      refine va_callv (va_runV (As := [.ref (τ124.1 (1000 + 8 * o + w))]) (rest := []) ⟨hx, hb, hml, hown, hts⟩ (c_oadd l hl0 D A sad τ124 f133 g134 ol hF7 o w (⟨(by rw [(hbτ124 (500 + o) (by omega)).1]; exact hm1.1), (by rw [(hbτ124 (600 + o) (by omega)).1]; exact hm1.2.1), (by rw [(hbτ124 (600 + o) (by omega)).2]; exact hm1.2.2)⟩) hor7 q136 (by omega) (1000 + 8 * o + w) hkτ124 ho) (cwV 1 hts gX11_makeOrder_X3_add rfl rfl rfl (by decide +kernel) ⟨Nat.le_of_ble_eq_true rfl, Nat.le_of_ble_eq_true rfl⟩) ⟨zQc_bl, zRecv hH (by rw [(hbτ124 (500 + o) (by omega)).1]; exact hm1.1) rfl, zQc_at hz hS hA hH⟩ rfl rfl hl.1 rfl (lv_room (Nat.le_of_ble_eq_true rfl)) dX11_makeOrder_87 ⟨by show _ ≤ 10; omega, by show _ ≤ 94; omega⟩) hS (fun q _ h => h) (fun q h => h) (fun u9 t9 H1 locs ht9 hvm9 hw hB hz1 hk1 hS => ?_)
      obtain ⟨f138, g139⟩ := u9
      have hH := zMv ht9 hvm9 hB
      clear hB
      simp only at hw hH
      generalize H1 = H at hH hS ⊢
      have hoa140 := hw
      clear hw
      have hF8 : zFix τ124 g139 := by rw [hoa140.2]; exact hF7.ur (by omega)
      obtain ⟨hmk2, hof2⟩ := zMk.step hmk hof (by omega) ho ht123 hn30 haτ124 hkτ124 hbτ124 ef125 eg126 hwi135 hoa140
      refine lv_iinc (v := nI (i + 1)) (lv' := [(4, .int (nI (i + 1))), (5, .ref (τ124.1 (300 + t123))), (0, .ref (τ124.1 0)), (1, .ref (τ124.1 (3000 + q))), (2, .int r101), (3, .ref (τ124.1 (500 + o)))]) hx hb dX11_makeOrder_90 hl (k := 5) rfl (by rw [show (Int32.ofInt 1 : Int32) = nI 1 from by decide, nI_add]) (by decide) rfl (fun ls hl => ?_)
      refine lv_goto (tgt := 34) hx hb dX11_makeOrder_93 (by decide) ?_
      refine W.widen (k := (2 + (w + 1))) (n := (14 + 10 * (w + 1))) (by omega) (by omega) (ih112 (l0 - (i + 1)) (by omega) (i + 1, w + 1, τ124, f138, g139) _ _ _ (show l0 - (i + 1) = l0 - (i + 1) ∧ ((i + 1) ≤ l0 ∧ (w + 1) ≤ (i + 1) ∧ zMk τ124 f138 g139 n o (w + 1) ∧ zFix τ124 g139 ∧ zOF τ fi fr o τ124 f138 g139) ∧ zH D A τ124 f138 g139 ol s _ ∧ va_S A s.heap _ _ ∧ lv_has _ 6 [(0, .ref (τ124.1 0)), (1, .ref (τ124.1 (3000 + q))), (2, .int r101), (3, .ref (τ124.1 (500 + o))), (4, .int (nI (i + 1)))] from ⟨rfl, ⟨by omega, by omega, hmk2, hF8, hof2⟩, hH, hS, lv_sub hl [2, 3, 4, 5, 0] rfl⟩))
    · skip
      refine lv_astoreN (lv' := [(5, .null), (0, .ref (T.1 0)), (1, .ref (T.1 (3000 + q))), (2, .int r101), (3, .ref (T.1 (500 + o))), (4, .int (nI i))]) hx hb dX11_makeOrder_54 hl (by decide) rfl (fun ls hl => ?_)
      refine lv_aloadN hx hb dX11_makeOrder_56 (lv_at hl 0 rfl) ?_
      refine lv_ifnullN (tgt := 90) hx hb dX11_makeOrder_58 (by decide) ?_
      refine lv_iinc (v := nI (i + 1)) (lv' := [(4, .int (nI (i + 1))), (5, .null), (0, .ref (T.1 0)), (1, .ref (T.1 (3000 + q))), (2, .int r101), (3, .ref (T.1 (500 + o)))]) hx hb dX11_makeOrder_90 hl (k := 5) rfl (by rw [show (Int32.ofInt 1 : Int32) = nI 1 from by decide, nI_add]) (by decide) rfl (fun ls hl => ?_)
      refine lv_goto (tgt := 34) hx hb dX11_makeOrder_93 (by decide) ?_
      refine W.widen (k := (2 + w)) (n := (14 + 10 * w)) (by omega) (by omega) (ih112 (l0 - (i + 1)) (by omega) (i + 1, w, T, f, g) _ _ _ (show l0 - (i + 1) = l0 - (i + 1) ∧ ((i + 1) ≤ l0 ∧ w ≤ (i + 1) ∧ zMk T f g n o w ∧ zFix T g ∧ zOF τ fi fr o T f g) ∧ zH D A T f g ol s _ ∧ va_S A s.heap _ _ ∧ lv_has _ 6 [(0, .ref (T.1 0)), (1, .ref (T.1 (3000 + q))), (2, .int r101), (3, .ref (T.1 (500 + o))), (4, .int (nI (i + 1)))] from ⟨rfl, ⟨by omega, by omega, hmk, hFg, hof⟩, hH, hS, lv_sub hl [2, 3, 4, 5, 0] rfl⟩))
