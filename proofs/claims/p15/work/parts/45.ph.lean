set_option maxHeartbeats 4000000 in
set_option maxRecDepth 100000 in
/-- rules -/
theorem w_rules (l : Launch) (hl0 : l.stackTraces = false) (D : va_G) (A : Nat → Prop) (sad : Nat → Nat) (τ : zTy) (fi : zFi) (fr : zFr) (ol : Int64) (L : Nat) (hF : zFix τ fr) (hn : fi 1 1 = nI L) (hn4 : L ≤ 400) (n : Nat) (hT : zTh τ fi fr n) : vx_Met l yX11_rules wsX11_rules ({ frames := 8, cells := 1, slots := 6, locals := 172 }) (va_Pc [.ref (τ.1 0)] (zQc D A sad τ fi fr ol)) (va_Qi (fun (r : Int32) (u : zFi) => u 1 1 = nI 0 ∧ ∀ i k, ¬ (i = 1 ∨ i = 10 ∨ i = 11 ∨ i = 13 ∨ i = 14 ∨ (i = 0 ∧ k = 14)) → u i k = fi i k) (fun (u : zFi) (t : State) => zH D A τ u fr ol t t.heap) A) (vx_X (fun u : zFi => True) (fun (E : String) (u : zFi) (t : State) => (E = "java/lang/IllegalArgumentException" ∧ u 1 1 = nI 0 ∧ ∀ i k, ¬ (i = 1 ∨ i = 10 ∨ i = 11 ∨ i = 13 ∨ i = 14 ∨ (i = 0 ∧ k = 14)) → u i k = fi i k) ∧ zH D A τ u fr ol t t.heap) A) 1 6 A := by
  refine vx_ofW (cc := cX11_rules) (maxL := 4) (ret := (some .int)) (by decide) rfl ?_
  intro p9 e9 s m args below meth c9 s₁ B hml ht0 hv
  obtain ⟨rfl, hz, hH, hA⟩ := hv
  have hx := B.exec
  have hb := B.bytes
  have hr := B.returns
  have hts := atoms_spec (ws := wsX11_rules) B.pre
  have hown : s.vm.findClass RX11 = some m.cls := findClass_of_methodNamed B.named
  have hlocks := B.notSynchronized
  have hS : va_S A s.heap s.heap [] := va_S.rf
  have hl := lv_entry ([.ref (τ.1 0)]) (n := 4) (Nat.le_of_ble_eq_true rfl)
  rw [lg_entry_eq]
  generalize (lg_sl ([.ref (τ.1 0)]) ++ List.replicate (4 - (lg_sl ([.ref (τ.1 0)])).length) Slot.unset).toArray = ls at hl ⊢
  have hl : lv_has ls 4 [(0, .ref (τ.1 0))] := hl
  have hn30 := hT.1
  have hT0 := hT
  have hiX11 : ∀ w ∈ u_ws RX11 TX11 16, w ∈ wsX11_rules := fun _ h => List.mem_cons_of_mem _ (List.mem_append_left _ (List.mem_append_left _ (List.mem_append_left _ (List.mem_append_left _ (List.mem_append_left _ (List.mem_append_right _ h))))))
  have hw1 := hts (.fieldLink RX11 37 "PostHouse" "draft" "LPostHouse$Rules;") (by decide +kernel)
  have hw2 := hts (.fieldLink RX11 33 "PostHouse" "rules" "LPostHouse$Rules;") (by decide +kernel)
  have hw3 := hts (.fieldLink RX11 10 "PostHouse" "tape" "LPostHouse$Tape;") (by decide +kernel)
  have hw4 := hts (.fieldLink RX11 72 "PostHouse" "fault" "I") (by decide +kernel)
  have hw5 := hts (.classLink RX11 91 "java/lang/IllegalArgumentException") (by decide +kernel)
  have hw6 := hts (.initialized "java/lang/IllegalArgumentException") (by decide +kernel)
  refine lv_aload_n hx hb dX11_rules_0 rfl (lv_at hl 0 rfl) ?_
  refine zGetR (D := D) (ci := 11) (C := RX11) (T := TX11) (N := 16) hx hb hts hiX11 hown hH (zk_0 hF) rfl 4 (by decide) rfl hw1 (fun _ h9 => h9) dX11_rules_1 (zr_0_4 hF) ?_
  refine lv_aload_n hx hb dX11_rules_4 rfl (lv_at hl 0 rfl) ?_
  refine zGetR (D := D) (ci := 11) (C := RX11) (T := TX11) (N := 16) hx hb hts hiX11 hown hH (zk_0 hF) rfl 3 (by decide) rfl hw2 (fun _ h9 => h9) dX11_rules_5 (zr_0_3 hF) ?_
  refine va_callv (va_runV (As := [.ref (τ.1 9)]) (rest := []) ⟨hx, hb, hml, hown, hts⟩ (c_copyD l hl0 D A sad τ fi fr ol hF) (cwV 1 hts gX11_rules_X5_copy rfl rfl rfl (by decide +kernel) ⟨Nat.le_of_ble_eq_true rfl, Nat.le_of_ble_eq_true rfl⟩) ⟨zQc_bl, zRecv hH (zk_12 hF) rfl, zQc_at hz hS hA hH⟩ rfl rfl hl.1 rfl (lv_room (Nat.le_of_ble_eq_true rfl)) dX11_rules_8 ⟨Nat.le_of_ble_eq_true rfl, Nat.le_of_ble_eq_true rfl⟩) hS (fun q _ h => h) (fun q h => h) (fun u9 t9 H1 locs ht9 hvm9 hw hB hz1 hk1 hS => ?_)
  have hH := zMv ht9 hvm9 hB
  clear hB
  generalize u9 = f102 at hw hH
  generalize H1 = H at hH hS ⊢
  have hf103 : ∀ i k, ¬ (i = 13 ∨ i = 14) → f102 i k = fi i k := fun i k h => by rw [hw]; show (if _ then _ else if _ then _ else _) = _; rw [if_neg (by omega), if_neg (by omega)]
  have q104 : f102 1 1 = nI L := by rw [hf103 1 1 (by omega)]; exact hn
  have hT := zTh.ci (fi' := f102) hT (fun i9 k9 h9 => hf103 i9 k9 (by omega))
  refine lv_aload_n hx hb dX11_rules_11 rfl (lv_at hl 0 rfl) ?_
  refine zGetR (D := D) (ci := 11) (C := RX11) (T := TX11) (N := 16) hx hb hts hiX11 hown hH (zk_0 hF) rfl 0 (by decide) rfl hw3 (fun _ h9 => h9) dX11_rules_12 (zr_0_0 hF) ?_
  refine va_callv (va_runV (As := []) (rest := []) ⟨hx, hb, hml, hown, hts⟩ (t_open l hl0 D A sad τ f102 fr ol L hF q104 (by omega)) (cwV 0 hts gX11_rules_X7_open rfl rfl rfl (by decide +kernel) ⟨Nat.le_of_ble_eq_true rfl, Nat.le_of_ble_eq_true rfl⟩) ⟨zQc_bl, zRecv hH (zk_1 hF) rfl, zQc_at hz hS hA hH⟩ rfl rfl hl.1 rfl (lv_room (Nat.le_of_ble_eq_true rfl)) dX11_rules_15 ⟨Nat.le_of_ble_eq_true rfl, Nat.le_of_ble_eq_true rfl⟩) hS (fun q _ h => h) (fun q h => h) (fun u9 t9 H1 locs ht9 hvm9 hw hB hz1 hk1 hS => ?_)
  have hH := zMv ht9 hvm9 hB
  clear hB
  generalize u9 = f106 at hw hH
  generalize H1 = H at hH hS ⊢
  obtain ⟨b7, e7, h7⟩ := hw
  obtain ⟨b107, hb108, q109, hf110⟩ := (⟨b7, h7.2.1, by rw [e7]; exact zu_s, fun i k q => by rw [e7, zu_n (by omega), zu_n (by omega)]⟩ : zTw f102 L f106)
  have q111 : f106 1 1 = nI L := by rw [hf110 1 1 (by omega)]; exact q104
  have hT := zTh.ci (fi' := f106) hT (fun i9 k9 h9 => hf110 i9 k9 (by omega))
  refine lv_iconst (v := nI 0) hx hb dX11_rules_18 (by decide) ?_
  refine lv_istore_n (lv' := [(1, .int (nI 0)), (0, .ref (τ.1 0))]) hx hb dX11_rules_19 rfl hl (by decide) rfl (fun ls hl => ?_)
  refine lv_iconst (v := nI 1) hx hb dX11_rules_20 (by decide) ?_
  refine lv_istore_n (lv' := [(2, .int (nI 1)), (1, .int (nI 0)), (0, .ref (τ.1 0))]) hx hb dX11_rules_21 rfl hl (by decide) rfl (fun ls hl => ?_)
  refine lv_iconst (v := nI 0) hx hb dX11_rules_22 (by decide) ?_
  refine lv_istore_n (lv' := [(3, .int (nI 0)), (2, .int (nI 1)), (1, .int (nI 0)), (0, .ref (τ.1 0))]) hx hb dX11_rules_23 rfl hl (by decide) rfl (fun ls hl => ?_)
  refine zLp (σ := Nat × Int32 × zFi) (fun x9 k9 H locs ls => (fun (i : Nat) (y : Int32) (f : zFi) => k9 = 400 - i ∧ (i ≤ 400 ∧ (∃ b, b ≤ L ∧ f 1 2 = nI b) ∧ ∀ a b, ¬ ((a = 1 ∧ 2 ≤ b) ∨ a = 13 ∨ a = 14) → f a b = fi a b) ∧ zH D A τ f fr ol s H ∧ va_S A s.heap H locs ∧ lv_has ls 4 [(0, .ref (τ.1 0)), (1, .int (nI i)), (2, .int y), (3, .int (nI i))]) x9.1 x9.2.1 x9.2.2) (0, nI 1, f106) (400 - 0) (show 400 - 0 = 400 - 0 ∧ (0 ≤ 400 ∧ (∃ b, b ≤ L ∧ f106 1 2 = nI b) ∧ ∀ a b, ¬ ((a = 1 ∧ 2 ≤ b) ∨ a = 13 ∨ a = 14) → f106 a b = fi a b) ∧ zH D A τ f106 fr ol s _ ∧ va_S A s.heap _ _ ∧ lv_has _ 4 [(0, .ref (τ.1 0)), (1, .int (nI 0)), (2, .int (nI 1)), (3, .int (nI 0))] from ⟨rfl, ⟨Nat.zero_le _, ⟨b107, by omega, q109⟩, fun a b h => by rw [hf110 a b (by omega), hf103 a b (by omega)]⟩, hH, hS, lv_sub hl [3, 2, 1, 0] rfl⟩) (fun k9 ih x9 H locs ls hv9 => ?_)
  obtain ⟨i, y, f⟩ := x9
  have hv9 : k9 = 400 - i ∧ (i ≤ 400 ∧ (∃ b, b ≤ L ∧ f 1 2 = nI b) ∧ ∀ a b, ¬ ((a = 1 ∧ 2 ≤ b) ∨ a = 13 ∨ a = 14) → f a b = fi a b) ∧ zH D A τ f fr ol s H ∧ va_S A s.heap H locs ∧ lv_has ls 4 [(0, .ref (τ.1 0)), (1, .int (nI i)), (2, .int y), (3, .int (nI i))] := hv9
  obtain ⟨hkih112, hv9, hH, hS, hl⟩ := hv9
  obtain ⟨h1, hpos, hfr⟩ := hv9
  have ih112 := ih
  clear ih
  obtain ⟨b6, hb6, q6⟩ := hpos
  have q5 : f 1 1 = nI L := by rw [hfr 1 1 (by omega)]; exact hn
  have hT := zTh.ci (fi' := f) hT0 (fun i9 k9 h9 => hfr i9 k9 (by omega))
  refine lv_iload_n hx hb dX11_rules_24 rfl (lv_at hl 3 rfl) ?_
  refine lv_sipush (v := nI 400) hx hb dX11_rules_25 (by decide) ?_
  refine lv_icmp_ge (tgt := 58) hx hb dX11_rules_28 (by decide) (fun c113 => ?_) (fun c113 => ?_)
  · have zc113 := c113
    replace zc113 := zc_le (nI_toInt (by omega)) (nI_toInt (by omega)) zc113
    refine lv_aload_n hx hb dX11_rules_58 rfl (lv_at hl 0 rfl) ?_
    refine va_callv (va_runV (As := []) (rest := []) ⟨hx, hb, hml, hown, hts⟩ (c_closeTape l hl0 D A sad τ f fr ol L b6 hF q5 q6 (by omega) (by omega)) (cwV 0 hts gX11_rules_X11_closeTape rfl rfl rfl (by decide +kernel) ⟨Nat.le_of_ble_eq_true rfl, Nat.le_of_ble_eq_true rfl⟩) ⟨zQc_bl, zRecv hH (zk_0 hF) rfl, zQc_at hz hS hA hH⟩ rfl rfl hl.1 rfl (lv_room (Nat.le_of_ble_eq_true rfl)) dX11_rules_59 ⟨Nat.le_of_ble_eq_true rfl, Nat.le_of_ble_eq_true rfl⟩) hS (fun q _ h => h) (fun q h => h) (fun u9 t9 H1 locs ht9 hvm9 hw hB hz1 hk1 hS => ?_)
    have hH := zMv ht9 hvm9 hB
    clear hB
    generalize u9 = f115 at hw hH
    generalize H1 = H at hH hS ⊢
    obtain ⟨w116, -, q117, q118, hf119⟩ := hw
    have q120 : f115 1 2 = nI b6 := by rw [hf119 1 2 (by omega)]; exact q6
    have hT := zTh.ci (fi' := f115) hT (fun i9 k9 h9 => hf119 i9 k9 (by omega))
    refine lv_aload_n hx hb dX11_rules_62 rfl (lv_at hl 0 rfl) ?_
    refine zGetI (D := D) (ci := 11) (C := RX11) (T := TX11) (N := 16) hx hb hts hiX11 hown hH (zk_0 hF) rfl 14 (by decide) rfl hw4 (fun _ h9 => h9) dX11_rules_63 q117 ?_
    refine lv_iconst (v := (-1)) hx hb dX11_rules_66 (by decide) ?_
    refine lv_icmp_eq (tgt := 80) hx hb dX11_rules_67 (by decide) (fun c121 => ?_) (fun c121 => ?_)
    · have zc121 := c121
      replace zc121 := zc_eq (rfl) ((by decide : ((-1) : Int32).toInt = (-1))) zc121
      refine lv_aload_n hx hb dX11_rules_80 rfl (lv_at hl 0 rfl) ?_
      refine zGetR (D := D) (ci := 11) (C := RX11) (T := TX11) (N := 16) hx hb hts hiX11 hown hH (zk_0 hF) rfl 3 (by decide) rfl hw2 (fun _ h9 => h9) dX11_rules_81 (zr_0_3 hF) ?_
      refine lv_aload_n hx hb dX11_rules_84 rfl (lv_at hl 0 rfl) ?_
      refine zGetR (D := D) (ci := 11) (C := RX11) (T := TX11) (N := 16) hx hb hts hiX11 hown hH (zk_0 hF) rfl 4 (by decide) rfl hw1 (fun _ h9 => h9) dX11_rules_85 (zr_0_4 hF) ?_
      refine va_callv (va_runV (As := [.ref (τ.1 12)]) (rest := []) ⟨hx, hb, hml, hown, hts⟩ (c_copyR l hl0 D A sad τ f115 fr ol hF) (cwV 1 hts gX11_rules_X5_copy rfl rfl rfl (by decide +kernel) ⟨Nat.le_of_ble_eq_true rfl, Nat.le_of_ble_eq_true rfl⟩) ⟨zQc_bl, zRecv hH (zk_9 hF) rfl, zQc_at hz hS hA hH⟩ rfl rfl hl.1 rfl (lv_room (Nat.le_of_ble_eq_true rfl)) dX11_rules_88 ⟨Nat.le_of_ble_eq_true rfl, Nat.le_of_ble_eq_true rfl⟩) hS (fun q _ h => h) (fun q h => h) (fun u9 t9 H1 locs ht9 hvm9 hw hB hz1 hk1 hS => ?_)
      have hH := zMv ht9 hvm9 hB
      clear hB
      generalize u9 = f123 at hw hH
      generalize H1 = H at hH hS ⊢
      have hf124 : ∀ i k, ¬ (i = 10 ∨ i = 11) → f123 i k = f115 i k := fun i k h => by rw [hw]; show (if _ then _ else if _ then _ else _) = _; rw [if_neg (by omega), if_neg (by omega)]
      have q125 : f123 1 2 = nI b6 := by rw [hf124 1 2 (by omega)]; exact q120
      have q126 : f123 0 14 = w116 := by rw [hf124 0 14 (by omega)]; exact q117
      have q127 : f123 1 1 = nI 0 := by rw [hf124 1 1 (by omega)]; exact q118
      have hT := zTh.ci (fi' := f123) hT (fun i9 k9 h9 => hf124 i9 k9 (by omega))
      refine lv_iload_n hx hb dX11_rules_91 rfl (lv_at hl 1 rfl) ?_
      refine W.widen (k := 1) (n := 6) (by decide) (by decide) ?_
      refine vx_ret ?_
      exact W.iret (v := nI i) hx hb hr (fun t9 ht9 hW9 => ⟨⟨nI i, f123, rfl, ⟨q127, fun i k h => by rw [hf124 i k (by omega), hf119 i k (by omega)]; exact hfr i k (by omega)⟩, zEnd1 hH ht9 hW9⟩, hS.F ht9⟩) hS.2.2 dX11_rules_92
    · have zc121 := c121
      replace zc121 := zc_neq (rfl) ((by decide : ((-1) : Int32).toInt = (-1))) zc121
      obtain ⟨a128, ha128⟩ := hz.1.2.2.2.2.1 _ (List.mem_of_getElem? (i := 7) rfl)
      have hat : ∀ w ∈ vx_atS RX11 95 "java/lang/IllegalArgumentException" ["java/lang/RuntimeException", "java/lang/Exception"], w.before _ s = true := vx_hat (fun w h => hts w (List.mem_cons_of_mem _ (List.mem_append_right _ h))) (B := [.castable "java/lang/IllegalArgumentException" "java/lang/IllegalArgumentException", .declares (Bundle.initS "java/lang/RuntimeException"), .declares (Bundle.initS "java/lang/Exception"), .declares (Bundle.initS Bundle.tN)]) (by decide +kernel) (vx_c (va_Nw.use rfl (hz.1.2.2.2.2.2.2.2.1 _ (List.mem_of_getElem? (i := 1) rfl))) (vx_c (va_Nw.use rfl (hz.1.2.2.2.2.2.2.2.2 _ (List.mem_of_getElem? (i := 0) rfl))) (vx_c (va_Nw.use rfl (hz.1.2.2.2.2.2.2.2.2 _ (List.mem_of_getElem? (i := 1) rfl))) (vx_c (va_Nw.use rfl (hz.1.2.2.2.2.2.2.2.2 _ (List.mem_of_getElem? (i := 2) rfl))) vx_n))))
      exact vx_throwS hx hb hl0 (own := RX11) (cls := "java/lang/IllegalArgumentException") (text := "the text of the rules is wrong") (names := ["java/lang/RuntimeException", "java/lang/Exception"]) hown (by decide +kernel) (by decide +kernel) hw5 hw6 ha128 hat (by decide +kernel) hz.1.1 hz.1.2.1 hS (by rw [hml]; exact hl.1) dX11_rules_70 dX11_rules_73 dX11_rules_74 dX11_rules_76 dX11_rules_79 (fun x h9 => (ht0 x h9).elim) (Nat.le_of_ble_eq_true rfl) (Nat.le_of_ble_eq_true rfl) (Nat.le_of_ble_eq_true rfl) (Nat.le_of_ble_eq_true rfl) hlocks (fun t9 hvm9 h91 h92 => ⟨f115, trivial, ⟨⟨rfl, ⟨q118, fun i k h => by rw [hf119 i k (by omega)]; exact hfr i k (by omega)⟩⟩, zThr hH hvm9 h92⟩, zF2 hS h91 h92⟩) hS.2.2 (by decide) (by decide)
  · have zc113 := c113
    replace zc113 := zc_nle (nI_toInt (by omega)) (nI_toInt (by omega)) zc113
    refine lv_iload_n hx hb dX11_rules_31 rfl (lv_at hl 2 rfl) ?_
    refine lv_if_eq (tgt := 58) hx hb dX11_rules_32 (by decide) (fun c129 => ?_) (fun c129 => ?_)
    · have zc129 := c129
      replace zc129 := zc_eq (rfl) ((by decide : (0 : Int32).toInt = 0)) zc129
      refine lv_aload_n hx hb dX11_rules_58 rfl (lv_at hl 0 rfl) ?_
      refine va_callv (va_runV (As := []) (rest := []) ⟨hx, hb, hml, hown, hts⟩ (c_closeTape l hl0 D A sad τ f fr ol L b6 hF q5 q6 (by omega) (by omega)) (cwV 0 hts gX11_rules_X11_closeTape rfl rfl rfl (by decide +kernel) ⟨Nat.le_of_ble_eq_true rfl, Nat.le_of_ble_eq_true rfl⟩) ⟨zQc_bl, zRecv hH (zk_0 hF) rfl, zQc_at hz hS hA hH⟩ rfl rfl hl.1 rfl (lv_room (Nat.le_of_ble_eq_true rfl)) dX11_rules_59 ⟨Nat.le_of_ble_eq_true rfl, Nat.le_of_ble_eq_true rfl⟩) hS (fun q _ h => h) (fun q h => h) (fun u9 t9 H1 locs ht9 hvm9 hw hB hz1 hk1 hS => ?_)
      have hH := zMv ht9 hvm9 hB
      clear hB
      generalize u9 = f131 at hw hH
      generalize H1 = H at hH hS ⊢
      obtain ⟨w132, -, q133, q134, hf135⟩ := hw
      have q136 : f131 1 2 = nI b6 := by rw [hf135 1 2 (by omega)]; exact q6
      have hT := zTh.ci (fi' := f131) hT (fun i9 k9 h9 => hf135 i9 k9 (by omega))
      refine lv_aload_n hx hb dX11_rules_62 rfl (lv_at hl 0 rfl) ?_
      refine zGetI (D := D) (ci := 11) (C := RX11) (T := TX11) (N := 16) hx hb hts hiX11 hown hH (zk_0 hF) rfl 14 (by decide) rfl hw4 (fun _ h9 => h9) dX11_rules_63 q133 ?_
      refine lv_iconst (v := (-1)) hx hb dX11_rules_66 (by decide) ?_
      refine lv_icmp_eq (tgt := 80) hx hb dX11_rules_67 (by decide) (fun c137 => ?_) (fun c137 => ?_)
      · have zc137 := c137
        replace zc137 := zc_eq (rfl) ((by decide : ((-1) : Int32).toInt = (-1))) zc137
        refine lv_aload_n hx hb dX11_rules_80 rfl (lv_at hl 0 rfl) ?_
        refine zGetR (D := D) (ci := 11) (C := RX11) (T := TX11) (N := 16) hx hb hts hiX11 hown hH (zk_0 hF) rfl 3 (by decide) rfl hw2 (fun _ h9 => h9) dX11_rules_81 (zr_0_3 hF) ?_
        refine lv_aload_n hx hb dX11_rules_84 rfl (lv_at hl 0 rfl) ?_
        refine zGetR (D := D) (ci := 11) (C := RX11) (T := TX11) (N := 16) hx hb hts hiX11 hown hH (zk_0 hF) rfl 4 (by decide) rfl hw1 (fun _ h9 => h9) dX11_rules_85 (zr_0_4 hF) ?_
        refine va_callv (va_runV (As := [.ref (τ.1 12)]) (rest := []) ⟨hx, hb, hml, hown, hts⟩ (c_copyR l hl0 D A sad τ f131 fr ol hF) (cwV 1 hts gX11_rules_X5_copy rfl rfl rfl (by decide +kernel) ⟨Nat.le_of_ble_eq_true rfl, Nat.le_of_ble_eq_true rfl⟩) ⟨zQc_bl, zRecv hH (zk_9 hF) rfl, zQc_at hz hS hA hH⟩ rfl rfl hl.1 rfl (lv_room (Nat.le_of_ble_eq_true rfl)) dX11_rules_88 ⟨Nat.le_of_ble_eq_true rfl, Nat.le_of_ble_eq_true rfl⟩) hS (fun q _ h => h) (fun q h => h) (fun u9 t9 H1 locs ht9 hvm9 hw hB hz1 hk1 hS => ?_)
        have hH := zMv ht9 hvm9 hB
        clear hB
        generalize u9 = f139 at hw hH
        generalize H1 = H at hH hS ⊢
        have hf140 : ∀ i k, ¬ (i = 10 ∨ i = 11) → f139 i k = f131 i k := fun i k h => by rw [hw]; show (if _ then _ else if _ then _ else _) = _; rw [if_neg (by omega), if_neg (by omega)]
        have q141 : f139 1 2 = nI b6 := by rw [hf140 1 2 (by omega)]; exact q136
        have q142 : f139 0 14 = w132 := by rw [hf140 0 14 (by omega)]; exact q133
        have q143 : f139 1 1 = nI 0 := by rw [hf140 1 1 (by omega)]; exact q134
        have hT := zTh.ci (fi' := f139) hT (fun i9 k9 h9 => hf140 i9 k9 (by omega))
        refine lv_iload_n hx hb dX11_rules_91 rfl (lv_at hl 1 rfl) ?_
        refine W.widen (k := 1) (n := 6) (by decide) (by decide) ?_
        refine vx_ret ?_
        exact W.iret (v := nI i) hx hb hr (fun t9 ht9 hW9 => ⟨⟨nI i, f139, rfl, ⟨q143, fun i k h => by rw [hf140 i k (by omega), hf135 i k (by omega)]; exact hfr i k (by omega)⟩, zEnd1 hH ht9 hW9⟩, hS.F ht9⟩) hS.2.2 dX11_rules_92
      · have zc137 := c137
        replace zc137 := zc_neq (rfl) ((by decide : ((-1) : Int32).toInt = (-1))) zc137
        obtain ⟨a144, ha144⟩ := hz.1.2.2.2.2.1 _ (List.mem_of_getElem? (i := 7) rfl)
        have hat : ∀ w ∈ vx_atS RX11 95 "java/lang/IllegalArgumentException" ["java/lang/RuntimeException", "java/lang/Exception"], w.before _ s = true := vx_hat (fun w h => hts w (List.mem_cons_of_mem _ (List.mem_append_right _ h))) (B := [.castable "java/lang/IllegalArgumentException" "java/lang/IllegalArgumentException", .declares (Bundle.initS "java/lang/RuntimeException"), .declares (Bundle.initS "java/lang/Exception"), .declares (Bundle.initS Bundle.tN)]) (by decide +kernel) (vx_c (va_Nw.use rfl (hz.1.2.2.2.2.2.2.2.1 _ (List.mem_of_getElem? (i := 1) rfl))) (vx_c (va_Nw.use rfl (hz.1.2.2.2.2.2.2.2.2 _ (List.mem_of_getElem? (i := 0) rfl))) (vx_c (va_Nw.use rfl (hz.1.2.2.2.2.2.2.2.2 _ (List.mem_of_getElem? (i := 1) rfl))) (vx_c (va_Nw.use rfl (hz.1.2.2.2.2.2.2.2.2 _ (List.mem_of_getElem? (i := 2) rfl))) vx_n))))
        exact vx_throwS hx hb hl0 (own := RX11) (cls := "java/lang/IllegalArgumentException") (text := "the text of the rules is wrong") (names := ["java/lang/RuntimeException", "java/lang/Exception"]) hown (by decide +kernel) (by decide +kernel) hw5 hw6 ha144 hat (by decide +kernel) hz.1.1 hz.1.2.1 hS (by rw [hml]; exact hl.1) dX11_rules_70 dX11_rules_73 dX11_rules_74 dX11_rules_76 dX11_rules_79 (fun x h9 => (ht0 x h9).elim) (Nat.le_of_ble_eq_true rfl) (Nat.le_of_ble_eq_true rfl) (Nat.le_of_ble_eq_true rfl) (Nat.le_of_ble_eq_true rfl) hlocks (fun t9 hvm9 h91 h92 => ⟨f131, trivial, ⟨⟨rfl, ⟨q134, fun i k h => by rw [hf135 i k (by omega)]; exact hfr i k (by omega)⟩⟩, zThr hH hvm9 h92⟩, zF2 hS h91 h92⟩) hS.2.2 (by decide) (by decide)
    · have zc129 := c129
      replace zc129 := zc_neq (rfl) ((by decide : (0 : Int32).toInt = 0)) zc129
      refine lv_aload_n hx hb dX11_rules_35 rfl (lv_at hl 0 rfl) ?_
      refine va_callv (va_runV (As := []) (rest := []) ⟨hx, hb, hml, hown, hts⟩ (w_readRule l hl0 D A sad τ f fr ol L b6 hF q5 q6 (by omega) (by omega) n hT) (cwV 0 hts gX11_rules_X11_readRule rfl rfl rfl (by decide +kernel) ⟨Nat.le_of_ble_eq_true rfl, Nat.le_of_ble_eq_true rfl⟩) ⟨zQc_bl, zRecv hH (zk_0 hF) rfl, zQc_at hz hS hA hH⟩ rfl rfl hl.1 rfl (lv_room (Nat.le_of_ble_eq_true rfl)) dX11_rules_36 ⟨Nat.le_of_ble_eq_true rfl, Nat.le_of_ble_eq_true rfl⟩) hS (fun q _ h => h) (fun q h => h) (fun u9 t9 H1 locs ht9 hvm9 hw hB hz1 hk1 hS => ?_)
      have hH := zMv ht9 hvm9 hB
      clear hB
      generalize u9 = f146 at hw hH
      generalize H1 = H at hH hS ⊢
      obtain ⟨⟨b149, hb150, q148⟩, hf151⟩ := hw
      have q152 : f146 1 1 = nI L := by rw [hf151 1 1 (by omega)]; exact q5
      have hT := zTh.ci (fi' := f146) hT (fun i9 k9 h9 => hf151 i9 k9 (by omega))
      refine lv_iinc (v := nI (i + 1)) (lv' := [(1, .int (nI (i + 1))), (0, .ref (τ.1 0)), (2, .int y), (3, .int (nI i))]) hx hb dX11_rules_39 hl (k := 1) rfl (by rw [show (Int32.ofInt 1 : Int32) = nI 1 from by decide, nI_add]) (by decide) rfl (fun ls hl => ?_)
      refine lv_aload_n hx hb dX11_rules_42 rfl (lv_at hl 1 rfl) ?_
      refine zGetR (D := D) (ci := 11) (C := RX11) (T := TX11) (N := 16) hx hb hts hiX11 hown hH (zk_0 hF) rfl 0 (by decide) rfl hw3 (fun _ h9 => h9) dX11_rules_43 (zr_0_0 hF) ?_
      refine lv_bipush (v := nI 59) hx hb dX11_rules_46 (by decide) ?_
      refine va_calli (va_runV (As := [.int (nI 59)]) (rest := []) ⟨hx, hb, hml, hown, hts⟩ (t_takesSign l hl0 D A sad τ f146 fr ol L b149 hF q152 q148 (by omega) (by omega) (nI 59)) (cwV 1 hts gX11_rules_X7_takesSign rfl rfl rfl (by decide +kernel) ⟨Nat.le_of_ble_eq_true rfl, Nat.le_of_ble_eq_true rfl⟩) ⟨zQc_bl, zRecv hH (zk_1 hF) rfl, zQc_at hz hS hA hH⟩ rfl rfl hl.1 rfl (lv_room (Nat.le_of_ble_eq_true rfl)) dX11_rules_48 ⟨Nat.le_of_ble_eq_true rfl, Nat.le_of_ble_eq_true rfl⟩) hS (fun q _ h => h) (fun q h => h) (fun r153 u9 t9 H1 locs ht9 hvm9 hw hB hz1 hk1 hS => ?_)
      have hH := zMv ht9 hvm9 hB
      clear hB
      generalize u9 = f154 at hw hH
      generalize H1 = H at hH hS ⊢
      have hsg : r153 = 1 ∨ r153 = 0 := hw.elim (fun h => Or.inl h.1) (fun h => Or.inr h.1)
      obtain ⟨b155, hb156, q157, hf158⟩ := zTw.sign q148 (by omega) hw
      have q159 : f154 1 1 = nI L := by rw [hf158 1 1 (by omega)]; exact q152
      have hT := zTh.ci (fi' := f154) hT (fun i9 k9 h9 => hf158 i9 k9 (by omega))
      refine lv_istore_n (lv' := [(2, .int r153), (1, .int (nI (i + 1))), (0, .ref (τ.1 0)), (3, .int (nI i))]) hx hb dX11_rules_51 rfl hl (by decide) rfl (fun ls hl => ?_)
      refine lv_iinc (v := nI (i + 1)) (lv' := [(3, .int (nI (i + 1))), (2, .int r153), (1, .int (nI (i + 1))), (0, .ref (τ.1 0))]) hx hb dX11_rules_52 hl (k := 3) rfl (by rw [show (Int32.ofInt 1 : Int32) = nI 1 from by decide, nI_add]) (by decide) rfl (fun ls hl => ?_)
      refine lv_goto (tgt := 24) hx hb dX11_rules_55 (by decide) ?_
      exact ih112 (400 - (i + 1)) (by omega) (i + 1, _, f154) _ _ _ (show 400 - (i + 1) = 400 - (i + 1) ∧ ((i + 1) ≤ 400 ∧ (∃ b, b ≤ L ∧ f154 1 2 = nI b) ∧ ∀ a b, ¬ ((a = 1 ∧ 2 ≤ b) ∨ a = 13 ∨ a = 14) → f154 a b = fi a b) ∧ zH D A τ f154 fr ol s _ ∧ va_S A s.heap _ _ ∧ lv_has _ 4 [(0, .ref (τ.1 0)), (1, .int (nI (i + 1))), (2, .int _), (3, .int (nI (i + 1)))] from ⟨rfl, ⟨by omega, ⟨b155, by omega, q157⟩, fun a b h => by rw [hf158 a b (by omega), hf151 a b (by omega)]; exact hfr a b h⟩, hH, hS, lv_sub hl [3, 2, 1, 0] rfl⟩)
/-- a letter's cells -/
def zLk (τ : zTy) (fr : zFr) (q : Nat) : Prop := (τ.2.2.1 (3000 + q) = 18 ∧ τ.2.2.1 (4000 + q) = 1 ∧ τ.2.2.1 (5000 + q) = 1) ∧ (τ.2.2.2 (4000 + q) = 8 ∧ τ.2.2.2 (5000 + q) = 8) ∧ fr (3000 + q) 0 = some (4000 + q) ∧ fr (3000 + q) 1 = some (5000 + q)
theorem zDo.lk {τ : zTy} {fi : zFi} {fr : zFr} {d q : Nat} (h : zDo τ fi fr d) (hq : q < d) : zLk τ fr q := by
  obtain ⟨⟨a1, a2, a3, a4, a5⟩, ⟨b1, b2, b3⟩, -⟩ := h.2.2.1 q hq
  exact ⟨⟨a1, a2, a3⟩, ⟨a4, a5⟩, b2, b3⟩
set_option maxHeartbeats 4000000 in
set_option maxRecDepth 100000 in
/-- Letter.addLine -/
theorem c_addLine (l : Launch) (hl0 : l.stackTraces = false) (D : va_G) (A : Nat → Prop) (sad : Nat → Nat) (τ : zTy) (fi : zFi) (fr : zFr) (ol : Int64) (x y : Int32) (q : Nat) (hq5 : q ≤ 512) (hL : zLk τ fr q) (l0 : Nat) (hl8 : l0 ≤ 8) (hln : fi (3000 + q) 2 = nI l0) : Met l yX2_addLine wsX2_addLine ({ frames := 0, cells := 0, slots := 0, locals := 0 }) (va_Pc [.ref (τ.1 (3000 + q)), .int x, .int y] (zQc D A sad τ fi fr ol)) (va_Qv (fun (u : zFi) => (l0 < 8 ∧ u = zu (zu (zu fi (4000 + q) l0 x) (5000 + q) l0 y) (3000 + q) 2 (nI (l0 + 1))) ∨ (l0 = 8 ∧ u = fi)) (fun (u : zFi) (t : State) => zH D A τ u fr ol t t.heap) A) 0 0 A := by
  refine Met.ofW (cc := cX2_addLine) (maxL := 3) (ret := none) (by decide) rfl ?_
  intro p9 e9 s m args below meth c9 s₁ B hml hv
  obtain ⟨rfl, hz, hH, hA⟩ := hv
  have hx := B.exec
  have hb := B.bytes
  have hr := B.returns
  have hts := atoms_spec (ws := wsX2_addLine) B.pre
  have hown : s.vm.findClass RX2 = some m.cls := findClass_of_methodNamed B.named
  have hlocks := B.notSynchronized
  have hS : va_S A s.heap s.heap [] := va_S.rf
  have hl := lv_entry ([.ref (τ.1 (3000 + q)), .int x, .int y]) (n := 3) (Nat.le_of_ble_eq_true rfl)
  rw [lg_entry_eq]
  generalize (lg_sl ([.ref (τ.1 (3000 + q)), .int x, .int y]) ++ List.replicate (3 - (lg_sl ([.ref (τ.1 (3000 + q)), .int x, .int y])).length) Slot.unset).toArray = ls at hl ⊢
  have hl : lv_has ls 3 [(0, .ref (τ.1 (3000 + q))), (1, .int x), (2, .int y)] := hl
  have hiX2 : ∀ w ∈ u_ws RX2 TX2 10, w ∈ wsX2_addLine := fun _ h => List.mem_cons_of_mem _ (List.mem_append_right _ h)
  have hw1 := hts (.fieldLink RX2 18 "PostHouse$Letter" "lines" "I") (by decide +kernel)
  have hw2 := hts (.fieldLink RX2 9 "PostHouse$Letter" "codes" "[I") (by decide +kernel)
  have hw3 := hts (.fieldLink RX2 15 "PostHouse$Letter" "pieces" "[I") (by decide +kernel)
  refine lv_aload_n hx hb dX2_addLine_0 rfl (lv_at hl 0 rfl) ?_
  refine zGetI (D := D) (ci := 2) (C := RX2) (T := TX2) (N := 10) hx hb hts hiX2 hown hH hL.1.1 rfl 2 (by decide) rfl hw1 (fun _ h9 => h9) dX2_addLine_1 hln ?_
  refine lv_bipush (v := nI 8) hx hb dX2_addLine_4 (by decide) ?_
  refine lv_icmp_ge (tgt := 39) hx hb dX2_addLine_6 (by decide) (fun c101 => ?_) (fun c101 => ?_)
  · have zc101 := c101
    replace zc101 := zc_le (nI_toInt (by omega)) (nI_toInt (by omega)) zc101
    refine W.widen (k := 0) (n := 0) (by decide) (by decide) ?_
    exact W.vret hx hb hr (fun t9 ht9 hW9 => ⟨⟨fi, rfl, Or.inr ⟨by omega, rfl⟩, zEnd1 hH ht9 hW9⟩, hS.F ht9⟩) hS.2.2 dX2_addLine_39
  · have zc101 := c101
    replace zc101 := zc_nle (nI_toInt (by omega)) (nI_toInt (by omega)) zc101
    refine lv_aload_n hx hb dX2_addLine_9 rfl (lv_at hl 0 rfl) ?_
    refine zGetR (D := D) (ci := 2) (C := RX2) (T := TX2) (N := 10) hx hb hts hiX2 hown hH hL.1.1 rfl 0 (by decide) rfl hw2 (fun _ h9 => h9) dX2_addLine_10 hL.2.2.1 ?_
    refine lv_aload_n hx hb dX2_addLine_13 rfl (lv_at hl 0 rfl) ?_
    refine zGetI (D := D) (ci := 2) (C := RX2) (T := TX2) (N := 10) hx hb hts hiX2 hown hH hL.1.1 rfl 2 (by decide) rfl hw1 (fun _ h9 => h9) dX2_addLine_14 hln ?_
    refine lv_iload_n hx hb dX2_addLine_17 rfl (lv_at hl 1 rfl) ?_
    refine zIastN (D := D) hx hb hH hS hL.1.2.1 hL.2.1.1 (by omega) (by omega) dX2_addLine_18 (fun H locs hH hS => ?_)
    obtain ⟨f102, ef102⟩ : ∃ f9 : zFi, f9 = zu fi (4000 + q) l0 x := ⟨_, rfl⟩
    rw [← ef102] at hH
    have q103 : f102 (3000 + q) 2 = nI l0 := by rw [ef102, zu_n (fun h9 => by omega)]; exact hln
    have q104 : f102 (4000 + q) l0 = x := by rw [ef102]; exact zu_s
    refine lv_aload_n hx hb dX2_addLine_19 rfl (lv_at hl 0 rfl) ?_
    refine zGetR (D := D) (ci := 2) (C := RX2) (T := TX2) (N := 10) hx hb hts hiX2 hown hH hL.1.1 rfl 1 (by decide) rfl hw3 (fun _ h9 => h9) dX2_addLine_20 hL.2.2.2 ?_
    refine lv_aload_n hx hb dX2_addLine_23 rfl (lv_at hl 0 rfl) ?_
    refine zGetI (D := D) (ci := 2) (C := RX2) (T := TX2) (N := 10) hx hb hts hiX2 hown hH hL.1.1 rfl 2 (by decide) rfl hw1 (fun _ h9 => h9) dX2_addLine_24 q103 ?_
    refine lv_iload_n hx hb dX2_addLine_27 rfl (lv_at hl 2 rfl) ?_
    refine zIastN (D := D) hx hb hH hS hL.1.2.2 hL.2.1.2 (by omega) (by omega) dX2_addLine_28 (fun H locs hH hS => ?_)
    obtain ⟨f105, ef105⟩ : ∃ f9 : zFi, f9 = zu f102 (5000 + q) l0 y := ⟨_, rfl⟩
    rw [← ef105] at hH
    have q106 : f105 (3000 + q) 2 = nI l0 := by rw [ef105, zu_n (fun h9 => by omega)]; exact q103
    have q107 : f105 (4000 + q) l0 = x := by rw [ef105, zu_n (fun h9 => by omega)]; exact q104
    have q108 : f105 (5000 + q) l0 = y := by rw [ef105]; exact zu_s
    refine lv_aload_n hx hb dX2_addLine_29 rfl (lv_at hl 0 rfl) ?_
    refine lv_dup hx hb dX2_addLine_30 rfl ?_
    refine zGetI (D := D) (ci := 2) (C := RX2) (T := TX2) (N := 10) hx hb hts hiX2 hown hH hL.1.1 rfl 2 (by decide) rfl hw1 (fun _ h9 => h9) dX2_addLine_31 q106 ?_
    refine lv_iconst (v := nI 1) hx hb dX2_addLine_34 (by decide) ?_
    refine lv_iadd hx hb dX2_addLine_35 ?_
    refine lv_topi (fun v109 ev109 => ?_)
    obtain rfl : v109 = nI (l0 + 1) := ev109.trans (nI_add _ _)
    refine zPutI (D := D) (ci := 2) (ty := .int) (C := RX2) (T := TX2) (N := 10) hx hb hts hiX2 tyX2 tyX2_ok nmX2 hown hH hS hL.1.1 rfl 2 (by decide) rfl hw1 (fun _ h9 => h9) rfl (by decide +kernel) rfl rfl dX2_addLine_36 (fun H locs hH hS => ?_)
    obtain ⟨f110, ef110⟩ : ∃ f9 : zFi, f9 = zu f105 (3000 + q) 2 (nI (l0 + 1)) := ⟨_, rfl⟩
    rw [← ef110] at hH
    have q111 : f110 (4000 + q) l0 = x := by rw [ef110, zu_n (fun h9 => by omega)]; exact q107
    have q112 : f110 (5000 + q) l0 = y := by rw [ef110, zu_n (fun h9 => by omega)]; exact q108
    have q113 : f110 (3000 + q) 2 = nI (l0 + 1) := by rw [ef110]; exact zu_s
    refine W.widen (k := 0) (n := 0) (by decide) (by decide) ?_
    exact W.vret hx hb hr (fun t9 ht9 hW9 => ⟨⟨f110, rfl, Or.inl ⟨by omega, by rw [ef110, ef105, ef102]⟩, zEnd1 hH ht9 hW9⟩, hS.F ht9⟩) hS.2.2 dX2_addLine_39
theorem zAl {fi u : zFi} {q l0 : Nat} {x y : Int32} (hl8 : l0 ≤ 8) (hln : fi (3000 + q) 2 = nI l0) (h : (l0 < 8 ∧ u = zu (zu (zu fi (4000 + q) l0 x) (5000 + q) l0 y) (3000 + q) 2 (nI (l0 + 1))) ∨ (l0 = 8 ∧ u = fi)) : (∃ l, l ≤ 8 ∧ u (3000 + q) 2 = nI l) ∧ ∀ i k, ¬ ((i = 3000 + q ∧ k = 2) ∨ i = 4000 + q ∨ i = 5000 + q) → u i k = fi i k := by
  rcases h with ⟨h1, rfl⟩ | ⟨h1, rfl⟩
  · exact ⟨⟨l0 + 1, by omega, zu_s⟩, fun i k h => by rw [zu_n (by omega), zu_n (by omega), zu_n (by omega)]⟩
  · exact ⟨⟨l0, hl8, hln⟩, fun _ _ _ => rfl⟩
set_option maxHeartbeats 4000000 in
set_option maxRecDepth 100000 in
/-- readLetter -/
theorem w_readLetter (l : Launch) (hl0 : l.stackTraces = false) (D : va_G) (A : Nat → Prop) (sad : Nat → Nat) (τ : zTy) (fi : zFi) (fr : zFr) (ol : Int64) (L a : Nat) (hF : zFix τ fr) (hn : fi 1 1 = nI L) (ha : fi 1 2 = nI a) (hn4 : L ≤ 400) (han : a ≤ L) (q : Nat) (hq5 : q ≤ 512) (hL : zLk τ fr q) (l0 : Nat) (hl8 : l0 ≤ 8) (hln : fi (3000 + q) 2 = nI l0) : Met l yX11_readLetter wsX11_readLetter ({ frames := 6, cells := 0, slots := 0, locals := 129 }) (va_Pc [.ref (τ.1 0), .ref (τ.1 (3000 + q))] (zQc D A sad τ fi fr ol)) (va_Qv (fun (u : zFi) => (∃ b, b ≤ L ∧ u 1 2 = nI b) ∧ (∃ l, l ≤ 8 ∧ u (3000 + q) 2 = nI l) ∧ ∀ a b, ¬ ((a = 1 ∧ 2 ≤ b) ∨ (a = 3000 + q ∧ 2 ≤ b ∧ b ≤ 4) ∨ a = 4000 + q ∨ a = 5000 + q) → u a b = fi a b) (fun (u : zFi) (t : State) => zH D A τ u fr ol t t.heap) A) 0 0 A := by
  refine Met.ofW (cc := cX11_readLetter) (maxL := 5) (ret := none) (by decide) rfl ?_
  intro p9 e9 s m args below meth c9 s₁ B hml hv
  obtain ⟨rfl, hz, hH, hA⟩ := hv
  have hx := B.exec
  have hb := B.bytes
  have hr := B.returns
  have hts := atoms_spec (ws := wsX11_readLetter) B.pre
  have hown : s.vm.findClass RX11 = some m.cls := findClass_of_methodNamed B.named
  have hlocks := B.notSynchronized
  have hS : va_S A s.heap s.heap [] := va_S.rf
  have hl := lv_entry ([.ref (τ.1 0), .ref (τ.1 (3000 + q))]) (n := 5) (Nat.le_of_ble_eq_true rfl)
  rw [lg_entry_eq]
  generalize (lg_sl ([.ref (τ.1 0), .ref (τ.1 (3000 + q))]) ++ List.replicate (5 - (lg_sl ([.ref (τ.1 0), .ref (τ.1 (3000 + q))])).length) Slot.unset).toArray = ls at hl ⊢
  have hl : lv_has ls 5 [(0, .ref (τ.1 0)), (1, .ref (τ.1 (3000 + q)))] := hl
  have hiX11 : ∀ w ∈ u_ws RX11 TX11 16, w ∈ wsX11_readLetter := fun _ h => List.mem_cons_of_mem _ (List.mem_append_left _ (List.mem_append_left _ (List.mem_append_right _ h)))
  have hw1 := hts (.fieldLink RX11 10 "PostHouse" "tape" "LPostHouse$Tape;") (by decide +kernel)
  have hw2 := hts (.constant RX11 450 999999) (by decide +kernel)
  have hw3 := hts (.fieldLink RX11 234 "PostHouse$Letter" "sum" "I") (by decide +kernel)
  have hiX2 : ∀ w ∈ u_ws RX2 TX2 10, w ∈ wsX11_readLetter := fun _ h => List.mem_cons_of_mem _ (List.mem_append_left _ (List.mem_append_right _ h))
  have hw5 := hts (.fieldLink RX11 237 "PostHouse$Letter" "money" "I") (by decide +kernel)
  refine lv_iconst (v := nI 1) hx hb dX11_readLetter_0 (by decide) ?_
  refine lv_istore_n (lv' := [(2, .int (nI 1)), (0, .ref (τ.1 0)), (1, .ref (τ.1 (3000 + q)))]) hx hb dX11_readLetter_1 rfl hl (by decide) rfl (fun ls hl => ?_)
  refine lv_iconst (v := nI 0) hx hb dX11_readLetter_2 (by decide) ?_
  refine lv_istore_n (lv' := [(3, .int (nI 0)), (2, .int (nI 1)), (0, .ref (τ.1 0)), (1, .ref (τ.1 (3000 + q)))]) hx hb dX11_readLetter_3 rfl hl (by decide) rfl (fun ls hl => ?_)
  refine zLp (σ := Nat × Int32 × zFi) (fun x9 k9 H locs ls => (fun (i : Nat) (y : Int32) (f : zFi) => k9 = 8 - i ∧ (i ≤ 8 ∧ (∃ b, b ≤ L ∧ f 1 2 = nI b) ∧ (∃ l, l ≤ 8 ∧ f (3000 + q) 2 = nI l) ∧ ∀ a b, ¬ ((a = 1 ∧ 2 ≤ b) ∨ (a = 3000 + q ∧ 2 ≤ b ∧ b ≤ 4) ∨ a = 4000 + q ∨ a = 5000 + q) → f a b = fi a b) ∧ zH D A τ f fr ol s H ∧ va_S A s.heap H locs ∧ lv_has ls 5 [(0, .ref (τ.1 0)), (1, .ref (τ.1 (3000 + q))), (2, .int y), (3, .int (nI i))]) x9.1 x9.2.1 x9.2.2) (0, nI 1, fi) (8 - 0) (show 8 - 0 = 8 - 0 ∧ (0 ≤ 8 ∧ (∃ b, b ≤ L ∧ fi 1 2 = nI b) ∧ (∃ l, l ≤ 8 ∧ fi (3000 + q) 2 = nI l) ∧ ∀ a b, ¬ ((a = 1 ∧ 2 ≤ b) ∨ (a = 3000 + q ∧ 2 ≤ b ∧ b ≤ 4) ∨ a = 4000 + q ∨ a = 5000 + q) → fi a b = fi a b) ∧ zH D A τ fi fr ol s _ ∧ va_S A s.heap _ _ ∧ lv_has _ 5 [(0, .ref (τ.1 0)), (1, .ref (τ.1 (3000 + q))), (2, .int (nI 1)), (3, .int (nI 0))] from ⟨rfl, ⟨Nat.zero_le _, ⟨a, han, ha⟩, ⟨l0, hl8, hln⟩, fun _ _ _ => rfl⟩, hH, hS, lv_sub hl [2, 3, 1, 0] rfl⟩) (fun k9 ih x9 H locs ls hv9 => ?_)
  obtain ⟨i, y, f⟩ := x9
  have hv9 : k9 = 8 - i ∧ (i ≤ 8 ∧ (∃ b, b ≤ L ∧ f 1 2 = nI b) ∧ (∃ l, l ≤ 8 ∧ f (3000 + q) 2 = nI l) ∧ ∀ a b, ¬ ((a = 1 ∧ 2 ≤ b) ∨ (a = 3000 + q ∧ 2 ≤ b ∧ b ≤ 4) ∨ a = 4000 + q ∨ a = 5000 + q) → f a b = fi a b) ∧ zH D A τ f fr ol s H ∧ va_S A s.heap H locs ∧ lv_has ls 5 [(0, .ref (τ.1 0)), (1, .ref (τ.1 (3000 + q))), (2, .int y), (3, .int (nI i))] := hv9
  obtain ⟨hkih101, hv9, hH, hS, hl⟩ := hv9
  obtain ⟨h1, hpos, hlin, hfr⟩ := hv9
  have ih101 := ih
  clear ih
  obtain ⟨b6, hb6, q6⟩ := hpos
  obtain ⟨l6, hl6, p6⟩ := hlin
  have q5 : f 1 1 = nI L := by rw [hfr 1 1 (by omega)]; exact hn
  refine lv_iload_n hx hb dX11_readLetter_4 rfl (lv_at hl 3 rfl) ?_
  refine lv_bipush (v := nI 8) hx hb dX11_readLetter_5 (by decide) ?_
  refine lv_icmp_ge (tgt := 81) hx hb dX11_readLetter_7 (by decide) (fun c102 => ?_) (fun c102 => ?_)
  · have zc102 := c102
    replace zc102 := zc_le (nI_toInt (by omega)) (nI_toInt (by omega)) zc102
    refine lv_aload_n hx hb dX11_readLetter_81 rfl (lv_at hl 0 rfl) ?_
    refine zGetR (D := D) (ci := 11) (C := RX11) (T := TX11) (N := 16) hx hb hts hiX11 hown hH (zk_0 hF) rfl 0 (by decide) rfl hw1 (fun _ h9 => h9) dX11_readLetter_82 (zr_0_0 hF) ?_
    refine zLdcW hx hb hown (hz.1.2.2.2.1 7 _ rfl).2 dX11_readLetter_85 ?_
    refine va_callv (va_runV (As := [.ref (sad 7)]) (rest := []) ⟨hx, hb, hml, hown, hts⟩ (t_needWord l hl0 D A sad τ f fr ol L b6 hF q5 q6 (by omega) (by omega) 7 ((449, "sum", [115, 117, 109])) rfl) (cwV 1 hts gX11_readLetter_X7_needWord rfl rfl rfl (by decide +kernel) ⟨Nat.le_of_ble_eq_true rfl, Nat.le_of_ble_eq_true rfl⟩) ⟨zQc_bl, zRecv hH (zk_1 hF) rfl, zQc_at hz hS hA hH⟩ rfl rfl hl.1 rfl (lv_room (Nat.le_of_ble_eq_true rfl)) dX11_readLetter_88 ⟨Nat.le_of_ble_eq_true rfl, Nat.le_of_ble_eq_true rfl⟩) hS (fun q _ h => h) (fun q h => h) (fun u9 t9 H1 locs ht9 hvm9 hw hB hz1 hk1 hS => ?_)
    have hH := zMv ht9 hvm9 hB
    clear hB
    generalize u9 = f104 at hw hH
    generalize H1 = H at hH hS ⊢
    obtain ⟨b105, hb106, q107, hf108⟩ := zTw.need q6 (by omega) hw
    have q109 : f104 1 1 = nI L := by rw [hf108 1 1 (by omega)]; exact q5
    have q110 : f104 (3000 + q) 2 = nI l6 := by rw [hf108 (3000 + q) 2 (by omega)]; exact p6
    refine lv_aload_n hx hb dX11_readLetter_91 rfl (lv_at hl 1 rfl) ?_
    refine lv_aload_n hx hb dX11_readLetter_92 rfl (lv_at hl 0 rfl) ?_
    refine zGetR (D := D) (ci := 11) (C := RX11) (T := TX11) (N := 16) hx hb hts hiX11 hown hH (zk_0 hF) rfl 0 (by decide) rfl hw1 (fun _ h9 => h9) dX11_readLetter_93 (zr_0_0 hF) ?_
    refine lv_iconst (v := nI 0) hx hb dX11_readLetter_96 (by decide) ?_
    refine lv_ldcw (v := nI 999999) hx hb hown hw2 dX11_readLetter_97 ?_
    refine va_calli (va_runV (As := [.int (nI 0), .int (nI 999999)]) (rest := [.ref (τ.1 (3000 + q))]) ⟨hx, hb, hml, hown, hts⟩ (t_number l hl0 D A sad τ f104 fr ol L b105 hF q109 q107 (by omega) (by omega) (nI 0) (nI 999999) (by decide)) (cwV 2 hts gX11_readLetter_X7_number rfl rfl rfl (by decide +kernel) ⟨Nat.le_of_ble_eq_true rfl, Nat.le_of_ble_eq_true rfl⟩) ⟨zQc_bl, zRecv hH (zk_1 hF) rfl, zQc_at hz hS hA hH⟩ rfl rfl hl.1 rfl (lv_room (Nat.le_of_ble_eq_true rfl)) dX11_readLetter_100 ⟨Nat.le_of_ble_eq_true rfl, Nat.le_of_ble_eq_true rfl⟩) hS (fun q _ h => h) (fun q h => h) (fun r111 u9 t9 H1 locs ht9 hvm9 hw hB hz1 hk1 hS => ?_)
    have hH := zMv ht9 hvm9 hB
    clear hB
    generalize u9 = f112 at hw hH
    generalize H1 = H at hH hS ⊢
    obtain ⟨b113, hb114, q115, hf116⟩ := zTw.num q107 (by omega) hw
    have q117 : f112 1 1 = nI L := by rw [hf116 1 1 (by omega)]; exact q109
    have q118 : f112 (3000 + q) 2 = nI l6 := by rw [hf116 (3000 + q) 2 (by omega)]; exact q110
    refine zPutI (D := D) (ci := 2) (ty := .int) (C := RX2) (T := TX2) (N := 10) hx hb hts hiX2 tyX2 tyX2_ok nmX2 hown hH hS hL.1.1 rfl 3 (by decide) rfl hw3 (fun _ h9 => h9) rfl (by decide +kernel) rfl rfl dX11_readLetter_103 (fun H locs hH hS => ?_)
    obtain ⟨f119, ef119⟩ : ∃ f9 : zFi, f9 = zu f112 (3000 + q) 3 r111 := ⟨_, rfl⟩
    rw [← ef119] at hH
    have q120 : f119 1 1 = nI L := by rw [ef119, zu_n (fun h9 => by omega)]; exact q117
    have q121 : f119 (3000 + q) 2 = nI l6 := by rw [ef119, zu_n (fun h9 => absurd h9.2 (by decide))]; exact q118
    have q122 : f119 1 2 = nI b113 := by rw [ef119, zu_n (fun h9 => by omega)]; exact q115
    have q123 : f119 (3000 + q) 3 = r111 := by rw [ef119]; exact zu_s
    refine lv_aload_n hx hb dX11_readLetter_106 rfl (lv_at hl 1 rfl) ?_
    refine lv_aload_n hx hb dX11_readLetter_107 rfl (lv_at hl 0 rfl) ?_
    refine zGetR (D := D) (ci := 11) (C := RX11) (T := TX11) (N := 16) hx hb hts hiX11 hown hH (zk_0 hF) rfl 0 (by decide) rfl hw1 (fun _ h9 => h9) dX11_readLetter_108 (zr_0_0 hF) ?_
    refine zLdcW hx hb hown (hz.1.2.2.2.1 8 _ rfl).2 dX11_readLetter_111 ?_
    refine va_calli (va_runV (As := [.ref (sad 8)]) (rest := [.ref (τ.1 (3000 + q))]) ⟨hx, hb, hml, hown, hts⟩ (t_takesWord l hl0 D A sad τ f119 fr ol L b113 hF q120 q122 (by omega) (by omega) 8 ((451, "money", [109, 111, 110, 101, 121])) rfl) (cwV 1 hts gX11_readLetter_X7_takesWord rfl rfl rfl (by decide +kernel) ⟨Nat.le_of_ble_eq_true rfl, Nat.le_of_ble_eq_true rfl⟩) ⟨zQc_bl, zRecv hH (zk_1 hF) rfl, zQc_at hz hS hA hH⟩ rfl rfl hl.1 rfl (lv_room (Nat.le_of_ble_eq_true rfl)) dX11_readLetter_114 ⟨Nat.le_of_ble_eq_true rfl, Nat.le_of_ble_eq_true rfl⟩) hS (fun q _ h => h) (fun q h => h) (fun r124 u9 t9 H1 locs ht9 hvm9 hw hB hz1 hk1 hS => ?_)
    have hH := zMv ht9 hvm9 hB
    clear hB
    generalize u9 = f125 at hw hH
    generalize H1 = H at hH hS ⊢
    have hr01 : r124 = 1 ∨ r124 = 0 := hw.elim (fun h => Or.inl h.1) (fun h => Or.inr h.1)
    obtain ⟨b126, hb127, q128, hf129⟩ := zTw.takes q122 (by omega) hw
    have q130 : f125 1 1 = nI L := by rw [hf129 1 1 (by omega)]; exact q120
    have q131 : f125 (3000 + q) 2 = nI l6 := by rw [hf129 (3000 + q) 2 (by omega)]; exact q121
    have q132 : f125 (3000 + q) 3 = r111 := by rw [hf129 (3000 + q) 3 (by omega)]; exact q123
    rcases hr01 with rfl | rfl
    · skip
      refine lv_if_eq (tgt := 134) hx hb dX11_readLetter_117 (by decide) (fun c133 => absurd c133 (by decide)) (fun c133 => ?_)
      refine lv_aload_n hx hb dX11_readLetter_120 rfl (lv_at hl 0 rfl) ?_
      refine zGetR (D := D) (ci := 11) (C := RX11) (T := TX11) (N := 16) hx hb hts hiX11 hown hH (zk_0 hF) rfl 0 (by decide) rfl hw1 (fun _ h9 => h9) dX11_readLetter_121 (zr_0_0 hF) ?_
      refine lv_iconst (v := nI 0) hx hb dX11_readLetter_124 (by decide) ?_
      refine lv_ldcw (v := nI 999999) hx hb hown hw2 dX11_readLetter_125 ?_
      refine va_calli (va_runV (As := [.int (nI 0), .int (nI 999999)]) (rest := [.ref (τ.1 (3000 + q))]) ⟨hx, hb, hml, hown, hts⟩ (t_number l hl0 D A sad τ f125 fr ol L b126 hF q130 q128 (by omega) (by omega) (nI 0) (nI 999999) (by decide)) (cwV 2 hts gX11_readLetter_X7_number rfl rfl rfl (by decide +kernel) ⟨Nat.le_of_ble_eq_true rfl, Nat.le_of_ble_eq_true rfl⟩) ⟨zQc_bl, zRecv hH (zk_1 hF) rfl, zQc_at hz hS hA hH⟩ rfl rfl hl.1 rfl (lv_room (Nat.le_of_ble_eq_true rfl)) dX11_readLetter_128 ⟨Nat.le_of_ble_eq_true rfl, Nat.le_of_ble_eq_true rfl⟩) hS (fun q _ h => h) (fun q h => h) (fun r134 u9 t9 H1 locs ht9 hvm9 hw hB hz1 hk1 hS => ?_)
      have hH := zMv ht9 hvm9 hB
      clear hB
      generalize u9 = f135 at hw hH
      generalize H1 = H at hH hS ⊢
      obtain ⟨b136, hb137, q138, hf139⟩ := zTw.num q128 (by omega) hw
      have q140 : f135 1 1 = nI L := by rw [hf139 1 1 (by omega)]; exact q130
      have q141 : f135 (3000 + q) 2 = nI l6 := by rw [hf139 (3000 + q) 2 (by omega)]; exact q131
      have q142 : f135 (3000 + q) 3 = r111 := by rw [hf139 (3000 + q) 3 (by omega)]; exact q132
      refine lv_goto (tgt := 138) hx hb dX11_readLetter_131 (by decide) ?_
      refine zPutI (D := D) (ci := 2) (ty := .int) (C := RX2) (T := TX2) (N := 10) hx hb hts hiX2 tyX2 tyX2_ok nmX2 hown hH hS hL.1.1 rfl 4 (by decide) rfl hw5 (fun _ h9 => h9) rfl (by decide +kernel) rfl rfl dX11_readLetter_138 (fun H locs hH hS => ?_)
      obtain ⟨f143, ef143⟩ : ∃ f9 : zFi, f9 = zu f135 (3000 + q) 4 r134 := ⟨_, rfl⟩
      rw [← ef143] at hH
      have q144 : f143 1 1 = nI L := by rw [ef143, zu_n (fun h9 => by omega)]; exact q140
      have q145 : f143 (3000 + q) 2 = nI l6 := by rw [ef143, zu_n (fun h9 => absurd h9.2 (by decide))]; exact q141
      have q146 : f143 (3000 + q) 3 = r111 := by rw [ef143, zu_n (fun h9 => absurd h9.2 (by decide))]; exact q142
      have q147 : f143 1 2 = nI b136 := by rw [ef143, zu_n (fun h9 => by omega)]; exact q138
      have q148 : f143 (3000 + q) 4 = r134 := by rw [ef143]; exact zu_s
      refine W.widen (k := 0) (n := 0) (by decide) (by decide) ?_
      exact W.vret hx hb hr (fun t9 ht9 hW9 => ⟨⟨f143, rfl, ⟨⟨b136, by omega, q147⟩, ⟨l6, by omega, q145⟩, fun a b h => by rw [ef143, zu_n (by omega), hf139 a b (by omega), hf129 a b (by omega), ef119, zu_n (by omega), hf116 a b (by omega), hf108 a b (by omega)]; exact hfr a b h⟩, zEnd1 hH ht9 hW9⟩, hS.F ht9⟩) hS.2.2 dX11_readLetter_141
    · skip
      refine lv_if_eq (tgt := 134) hx hb dX11_readLetter_117 (by decide) (fun c149 => ?_) (fun c149 => absurd (by decide) c149)
      refine lv_aload_n hx hb dX11_readLetter_134 rfl (lv_at hl 1 rfl) ?_
      refine zGetI (D := D) (ci := 2) (C := RX2) (T := TX2) (N := 10) hx hb hts hiX2 hown hH hL.1.1 rfl 3 (by decide) rfl hw3 (fun _ h9 => h9) dX11_readLetter_135 q132 ?_
      refine zPutI (D := D) (ci := 2) (ty := .int) (C := RX2) (T := TX2) (N := 10) hx hb hts hiX2 tyX2 tyX2_ok nmX2 hown hH hS hL.1.1 rfl 4 (by decide) rfl hw5 (fun _ h9 => h9) rfl (by decide +kernel) rfl rfl dX11_readLetter_138 (fun H locs hH hS => ?_)
      obtain ⟨f150, ef150⟩ : ∃ f9 : zFi, f9 = zu f125 (3000 + q) 4 r111 := ⟨_, rfl⟩
      rw [← ef150] at hH
      have q151 : f150 1 1 = nI L := by rw [ef150, zu_n (fun h9 => by omega)]; exact q130
      have q152 : f150 (3000 + q) 2 = nI l6 := by rw [ef150, zu_n (fun h9 => absurd h9.2 (by decide))]; exact q131
      have q153 : f150 (3000 + q) 3 = r111 := by rw [ef150, zu_n (fun h9 => absurd h9.2 (by decide))]; exact q132
      have q154 : f150 1 2 = nI b126 := by rw [ef150, zu_n (fun h9 => by omega)]; exact q128
      have q155 : f150 (3000 + q) 4 = r111 := by rw [ef150]; exact zu_s
      refine W.widen (k := 0) (n := 0) (by decide) (by decide) ?_
      exact W.vret hx hb hr (fun t9 ht9 hW9 => ⟨⟨f150, rfl, ⟨⟨b126, by omega, q154⟩, ⟨l6, by omega, q152⟩, fun a b h => by rw [ef150, zu_n (by omega), hf129 a b (by omega), ef119, zu_n (by omega), hf116 a b (by omega), hf108 a b (by omega)]; exact hfr a b h⟩, zEnd1 hH ht9 hW9⟩, hS.F ht9⟩) hS.2.2 dX11_readLetter_141
  · have zc102 := c102
    replace zc102 := zc_nle (nI_toInt (by omega)) (nI_toInt (by omega)) zc102
    refine lv_iload_n hx hb dX11_readLetter_10 rfl (lv_at hl 2 rfl) ?_
    refine lv_if_eq (tgt := 81) hx hb dX11_readLetter_11 (by decide) (fun c156 => ?_) (fun c156 => ?_)
    · have zc156 := c156
      replace zc156 := zc_eq (rfl) ((by decide : (0 : Int32).toInt = 0)) zc156
      refine lv_aload_n hx hb dX11_readLetter_81 rfl (lv_at hl 0 rfl) ?_
      refine zGetR (D := D) (ci := 11) (C := RX11) (T := TX11) (N := 16) hx hb hts hiX11 hown hH (zk_0 hF) rfl 0 (by decide) rfl hw1 (fun _ h9 => h9) dX11_readLetter_82 (zr_0_0 hF) ?_
      refine zLdcW hx hb hown (hz.1.2.2.2.1 7 _ rfl).2 dX11_readLetter_85 ?_
      refine va_callv (va_runV (As := [.ref (sad 7)]) (rest := []) ⟨hx, hb, hml, hown, hts⟩ (t_needWord l hl0 D A sad τ f fr ol L b6 hF q5 q6 (by omega) (by omega) 7 ((449, "sum", [115, 117, 109])) rfl) (cwV 1 hts gX11_readLetter_X7_needWord rfl rfl rfl (by decide +kernel) ⟨Nat.le_of_ble_eq_true rfl, Nat.le_of_ble_eq_true rfl⟩) ⟨zQc_bl, zRecv hH (zk_1 hF) rfl, zQc_at hz hS hA hH⟩ rfl rfl hl.1 rfl (lv_room (Nat.le_of_ble_eq_true rfl)) dX11_readLetter_88 ⟨Nat.le_of_ble_eq_true rfl, Nat.le_of_ble_eq_true rfl⟩) hS (fun q _ h => h) (fun q h => h) (fun u9 t9 H1 locs ht9 hvm9 hw hB hz1 hk1 hS => ?_)
      have hH := zMv ht9 hvm9 hB
      clear hB
      generalize u9 = f158 at hw hH
      generalize H1 = H at hH hS ⊢
      obtain ⟨b159, hb160, q161, hf162⟩ := zTw.need q6 (by omega) hw
      have q163 : f158 1 1 = nI L := by rw [hf162 1 1 (by omega)]; exact q5
      have q164 : f158 (3000 + q) 2 = nI l6 := by rw [hf162 (3000 + q) 2 (by omega)]; exact p6
      refine lv_aload_n hx hb dX11_readLetter_91 rfl (lv_at hl 1 rfl) ?_
      refine lv_aload_n hx hb dX11_readLetter_92 rfl (lv_at hl 0 rfl) ?_
      refine zGetR (D := D) (ci := 11) (C := RX11) (T := TX11) (N := 16) hx hb hts hiX11 hown hH (zk_0 hF) rfl 0 (by decide) rfl hw1 (fun _ h9 => h9) dX11_readLetter_93 (zr_0_0 hF) ?_
      refine lv_iconst (v := nI 0) hx hb dX11_readLetter_96 (by decide) ?_
      refine lv_ldcw (v := nI 999999) hx hb hown hw2 dX11_readLetter_97 ?_
      refine va_calli (va_runV (As := [.int (nI 0), .int (nI 999999)]) (rest := [.ref (τ.1 (3000 + q))]) ⟨hx, hb, hml, hown, hts⟩ (t_number l hl0 D A sad τ f158 fr ol L b159 hF q163 q161 (by omega) (by omega) (nI 0) (nI 999999) (by decide)) (cwV 2 hts gX11_readLetter_X7_number rfl rfl rfl (by decide +kernel) ⟨Nat.le_of_ble_eq_true rfl, Nat.le_of_ble_eq_true rfl⟩) ⟨zQc_bl, zRecv hH (zk_1 hF) rfl, zQc_at hz hS hA hH⟩ rfl rfl hl.1 rfl (lv_room (Nat.le_of_ble_eq_true rfl)) dX11_readLetter_100 ⟨Nat.le_of_ble_eq_true rfl, Nat.le_of_ble_eq_true rfl⟩) hS (fun q _ h => h) (fun q h => h) (fun r165 u9 t9 H1 locs ht9 hvm9 hw hB hz1 hk1 hS => ?_)
      have hH := zMv ht9 hvm9 hB
      clear hB
      generalize u9 = f166 at hw hH
      generalize H1 = H at hH hS ⊢
      obtain ⟨b167, hb168, q169, hf170⟩ := zTw.num q161 (by omega) hw
      have q171 : f166 1 1 = nI L := by rw [hf170 1 1 (by omega)]; exact q163
      have q172 : f166 (3000 + q) 2 = nI l6 := by rw [hf170 (3000 + q) 2 (by omega)]; exact q164
      refine zPutI (D := D) (ci := 2) (ty := .int) (C := RX2) (T := TX2) (N := 10) hx hb hts hiX2 tyX2 tyX2_ok nmX2 hown hH hS hL.1.1 rfl 3 (by decide) rfl hw3 (fun _ h9 => h9) rfl (by decide +kernel) rfl rfl dX11_readLetter_103 (fun H locs hH hS => ?_)
      obtain ⟨f173, ef173⟩ : ∃ f9 : zFi, f9 = zu f166 (3000 + q) 3 r165 := ⟨_, rfl⟩
      rw [← ef173] at hH
      have q174 : f173 1 1 = nI L := by rw [ef173, zu_n (fun h9 => by omega)]; exact q171
      have q175 : f173 (3000 + q) 2 = nI l6 := by rw [ef173, zu_n (fun h9 => absurd h9.2 (by decide))]; exact q172
      have q176 : f173 1 2 = nI b167 := by rw [ef173, zu_n (fun h9 => by omega)]; exact q169
      have q177 : f173 (3000 + q) 3 = r165 := by rw [ef173]; exact zu_s
      refine lv_aload_n hx hb dX11_readLetter_106 rfl (lv_at hl 1 rfl) ?_
      refine lv_aload_n hx hb dX11_readLetter_107 rfl (lv_at hl 0 rfl) ?_
      refine zGetR (D := D) (ci := 11) (C := RX11) (T := TX11) (N := 16) hx hb hts hiX11 hown hH (zk_0 hF) rfl 0 (by decide) rfl hw1 (fun _ h9 => h9) dX11_readLetter_108 (zr_0_0 hF) ?_
      refine zLdcW hx hb hown (hz.1.2.2.2.1 8 _ rfl).2 dX11_readLetter_111 ?_
      refine va_calli (va_runV (As := [.ref (sad 8)]) (rest := [.ref (τ.1 (3000 + q))]) ⟨hx, hb, hml, hown, hts⟩ (t_takesWord l hl0 D A sad τ f173 fr ol L b167 hF q174 q176 (by omega) (by omega) 8 ((451, "money", [109, 111, 110, 101, 121])) rfl) (cwV 1 hts gX11_readLetter_X7_takesWord rfl rfl rfl (by decide +kernel) ⟨Nat.le_of_ble_eq_true rfl, Nat.le_of_ble_eq_true rfl⟩) ⟨zQc_bl, zRecv hH (zk_1 hF) rfl, zQc_at hz hS hA hH⟩ rfl rfl hl.1 rfl (lv_room (Nat.le_of_ble_eq_true rfl)) dX11_readLetter_114 ⟨Nat.le_of_ble_eq_true rfl, Nat.le_of_ble_eq_true rfl⟩) hS (fun q _ h => h) (fun q h => h) (fun r178 u9 t9 H1 locs ht9 hvm9 hw hB hz1 hk1 hS => ?_)
      have hH := zMv ht9 hvm9 hB
      clear hB
      generalize u9 = f179 at hw hH
      generalize H1 = H at hH hS ⊢
      have hr01 : r178 = 1 ∨ r178 = 0 := hw.elim (fun h => Or.inl h.1) (fun h => Or.inr h.1)
      obtain ⟨b180, hb181, q182, hf183⟩ := zTw.takes q176 (by omega) hw
      have q184 : f179 1 1 = nI L := by rw [hf183 1 1 (by omega)]; exact q174
      have q185 : f179 (3000 + q) 2 = nI l6 := by rw [hf183 (3000 + q) 2 (by omega)]; exact q175
      have q186 : f179 (3000 + q) 3 = r165 := by rw [hf183 (3000 + q) 3 (by omega)]; exact q177
      rcases hr01 with rfl | rfl
      · skip
        refine lv_if_eq (tgt := 134) hx hb dX11_readLetter_117 (by decide) (fun c187 => absurd c187 (by decide)) (fun c187 => ?_)
        refine lv_aload_n hx hb dX11_readLetter_120 rfl (lv_at hl 0 rfl) ?_
        refine zGetR (D := D) (ci := 11) (C := RX11) (T := TX11) (N := 16) hx hb hts hiX11 hown hH (zk_0 hF) rfl 0 (by decide) rfl hw1 (fun _ h9 => h9) dX11_readLetter_121 (zr_0_0 hF) ?_
        refine lv_iconst (v := nI 0) hx hb dX11_readLetter_124 (by decide) ?_
        refine lv_ldcw (v := nI 999999) hx hb hown hw2 dX11_readLetter_125 ?_
        refine va_calli (va_runV (As := [.int (nI 0), .int (nI 999999)]) (rest := [.ref (τ.1 (3000 + q))]) ⟨hx, hb, hml, hown, hts⟩ (t_number l hl0 D A sad τ f179 fr ol L b180 hF q184 q182 (by omega) (by omega) (nI 0) (nI 999999) (by decide)) (cwV 2 hts gX11_readLetter_X7_number rfl rfl rfl (by decide +kernel) ⟨Nat.le_of_ble_eq_true rfl, Nat.le_of_ble_eq_true rfl⟩) ⟨zQc_bl, zRecv hH (zk_1 hF) rfl, zQc_at hz hS hA hH⟩ rfl rfl hl.1 rfl (lv_room (Nat.le_of_ble_eq_true rfl)) dX11_readLetter_128 ⟨Nat.le_of_ble_eq_true rfl, Nat.le_of_ble_eq_true rfl⟩) hS (fun q _ h => h) (fun q h => h) (fun r188 u9 t9 H1 locs ht9 hvm9 hw hB hz1 hk1 hS => ?_)
        have hH := zMv ht9 hvm9 hB
        clear hB
        generalize u9 = f189 at hw hH
        generalize H1 = H at hH hS ⊢
        obtain ⟨b190, hb191, q192, hf193⟩ := zTw.num q182 (by omega) hw
        have q194 : f189 1 1 = nI L := by rw [hf193 1 1 (by omega)]; exact q184
        have q195 : f189 (3000 + q) 2 = nI l6 := by rw [hf193 (3000 + q) 2 (by omega)]; exact q185
        have q196 : f189 (3000 + q) 3 = r165 := by rw [hf193 (3000 + q) 3 (by omega)]; exact q186
        refine lv_goto (tgt := 138) hx hb dX11_readLetter_131 (by decide) ?_
        refine zPutI (D := D) (ci := 2) (ty := .int) (C := RX2) (T := TX2) (N := 10) hx hb hts hiX2 tyX2 tyX2_ok nmX2 hown hH hS hL.1.1 rfl 4 (by decide) rfl hw5 (fun _ h9 => h9) rfl (by decide +kernel) rfl rfl dX11_readLetter_138 (fun H locs hH hS => ?_)
        obtain ⟨f197, ef197⟩ : ∃ f9 : zFi, f9 = zu f189 (3000 + q) 4 r188 := ⟨_, rfl⟩
        rw [← ef197] at hH
        have q198 : f197 1 1 = nI L := by rw [ef197, zu_n (fun h9 => by omega)]; exact q194
        have q199 : f197 (3000 + q) 2 = nI l6 := by rw [ef197, zu_n (fun h9 => absurd h9.2 (by decide))]; exact q195
        have q200 : f197 (3000 + q) 3 = r165 := by rw [ef197, zu_n (fun h9 => absurd h9.2 (by decide))]; exact q196
        have q201 : f197 1 2 = nI b190 := by rw [ef197, zu_n (fun h9 => by omega)]; exact q192
        have q202 : f197 (3000 + q) 4 = r188 := by rw [ef197]; exact zu_s
        refine W.widen (k := 0) (n := 0) (by decide) (by decide) ?_
        exact W.vret hx hb hr (fun t9 ht9 hW9 => ⟨⟨f197, rfl, ⟨⟨b190, by omega, q201⟩, ⟨l6, by omega, q199⟩, fun a b h => by rw [ef197, zu_n (by omega), hf193 a b (by omega), hf183 a b (by omega), ef173, zu_n (by omega), hf170 a b (by omega), hf162 a b (by omega)]; exact hfr a b h⟩, zEnd1 hH ht9 hW9⟩, hS.F ht9⟩) hS.2.2 dX11_readLetter_141
      · skip
        refine lv_if_eq (tgt := 134) hx hb dX11_readLetter_117 (by decide) (fun c203 => ?_) (fun c203 => absurd (by decide) c203)
        refine lv_aload_n hx hb dX11_readLetter_134 rfl (lv_at hl 1 rfl) ?_
        refine zGetI (D := D) (ci := 2) (C := RX2) (T := TX2) (N := 10) hx hb hts hiX2 hown hH hL.1.1 rfl 3 (by decide) rfl hw3 (fun _ h9 => h9) dX11_readLetter_135 q186 ?_
        refine zPutI (D := D) (ci := 2) (ty := .int) (C := RX2) (T := TX2) (N := 10) hx hb hts hiX2 tyX2 tyX2_ok nmX2 hown hH hS hL.1.1 rfl 4 (by decide) rfl hw5 (fun _ h9 => h9) rfl (by decide +kernel) rfl rfl dX11_readLetter_138 (fun H locs hH hS => ?_)
        obtain ⟨f204, ef204⟩ : ∃ f9 : zFi, f9 = zu f179 (3000 + q) 4 r165 := ⟨_, rfl⟩
        rw [← ef204] at hH
        have q205 : f204 1 1 = nI L := by rw [ef204, zu_n (fun h9 => by omega)]; exact q184
        have q206 : f204 (3000 + q) 2 = nI l6 := by rw [ef204, zu_n (fun h9 => absurd h9.2 (by decide))]; exact q185
        have q207 : f204 (3000 + q) 3 = r165 := by rw [ef204, zu_n (fun h9 => absurd h9.2 (by decide))]; exact q186
        have q208 : f204 1 2 = nI b180 := by rw [ef204, zu_n (fun h9 => by omega)]; exact q182
        have q209 : f204 (3000 + q) 4 = r165 := by rw [ef204]; exact zu_s
        refine W.widen (k := 0) (n := 0) (by decide) (by decide) ?_
        exact W.vret hx hb hr (fun t9 ht9 hW9 => ⟨⟨f204, rfl, ⟨⟨b180, by omega, q208⟩, ⟨l6, by omega, q206⟩, fun a b h => by rw [ef204, zu_n (by omega), hf183 a b (by omega), ef173, zu_n (by omega), hf170 a b (by omega), hf162 a b (by omega)]; exact hfr a b h⟩, zEnd1 hH ht9 hW9⟩, hS.F ht9⟩) hS.2.2 dX11_readLetter_141
    · have zc156 := c156
      replace zc156 := zc_neq (rfl) ((by decide : (0 : Int32).toInt = 0)) zc156
      refine lv_aload_n hx hb dX11_readLetter_14 rfl (lv_at hl 0 rfl) ?_
      refine zGetR (D := D) (ci := 11) (C := RX11) (T := TX11) (N := 16) hx hb hts hiX11 hown hH (zk_0 hF) rfl 0 (by decide) rfl hw1 (fun _ h9 => h9) dX11_readLetter_15 (zr_0_0 hF) ?_
      refine va_calli (va_runV (As := []) (rest := []) ⟨hx, hb, hml, hown, hts⟩ (t_code l hl0 D A sad τ f fr ol L b6 hF q5 q6 (by omega) (by omega)) (cwV 0 hts gX11_readLetter_X7_code rfl rfl rfl (by decide +kernel) ⟨Nat.le_of_ble_eq_true rfl, Nat.le_of_ble_eq_true rfl⟩) ⟨zQc_bl, zRecv hH (zk_1 hF) rfl, zQc_at hz hS hA hH⟩ rfl rfl hl.1 rfl (lv_room (Nat.le_of_ble_eq_true rfl)) dX11_readLetter_18 ⟨Nat.le_of_ble_eq_true rfl, Nat.le_of_ble_eq_true rfl⟩) hS (fun q _ h => h) (fun q h => h) (fun r210 u9 t9 H1 locs ht9 hvm9 hw hB hz1 hk1 hS => ?_)
      have hH := zMv ht9 hvm9 hB
      clear hB
      generalize u9 = f211 at hw hH
      generalize H1 = H at hH hS ⊢
      obtain ⟨b212, hb213, q214, hf215⟩ := zTw.num q6 (by omega) hw
      have q216 : f211 1 1 = nI L := by rw [hf215 1 1 (by omega)]; exact q5
      have q217 : f211 (3000 + q) 2 = nI l6 := by rw [hf215 (3000 + q) 2 (by omega)]; exact p6
      refine lv_istore (lv' := [(4, .int r210), (0, .ref (τ.1 0)), (1, .ref (τ.1 (3000 + q))), (2, .int y), (3, .int (nI i))]) hx hb dX11_readLetter_21 hl (by decide) rfl (fun ls hl => ?_)
      refine lv_aload_n hx hb dX11_readLetter_23 rfl (lv_at hl 1 rfl) ?_
      refine zGetR (D := D) (ci := 11) (C := RX11) (T := TX11) (N := 16) hx hb hts hiX11 hown hH (zk_0 hF) rfl 0 (by decide) rfl hw1 (fun _ h9 => h9) dX11_readLetter_24 (zr_0_0 hF) ?_
      refine zLdcW hx hb hown (hz.1.2.2.2.1 6 _ rfl).2 dX11_readLetter_27 ?_
      refine va_callv (va_runV (As := [.ref (sad 6)]) (rest := []) ⟨hx, hb, hml, hown, hts⟩ (t_needWord l hl0 D A sad τ f211 fr ol L b212 hF q216 q214 (by omega) (by omega) 6 ((443, "x", [120])) rfl) (cwV 1 hts gX11_readLetter_X7_needWord rfl rfl rfl (by decide +kernel) ⟨Nat.le_of_ble_eq_true rfl, Nat.le_of_ble_eq_true rfl⟩) ⟨zQc_bl, zRecv hH (zk_1 hF) rfl, zQc_at hz hS hA hH⟩ rfl rfl hl.1 rfl (lv_room (Nat.le_of_ble_eq_true rfl)) dX11_readLetter_30 ⟨Nat.le_of_ble_eq_true rfl, Nat.le_of_ble_eq_true rfl⟩) hS (fun q _ h => h) (fun q h => h) (fun u9 t9 H1 locs ht9 hvm9 hw hB hz1 hk1 hS => ?_)
      have hH := zMv ht9 hvm9 hB
      clear hB
      generalize u9 = f219 at hw hH
      generalize H1 = H at hH hS ⊢
      obtain ⟨b220, hb221, q222, hf223⟩ := zTw.need q214 (by omega) hw
      have q224 : f219 1 1 = nI L := by rw [hf223 1 1 (by omega)]; exact q216
      have q225 : f219 (3000 + q) 2 = nI l6 := by rw [hf223 (3000 + q) 2 (by omega)]; exact q217
      refine lv_aload_n hx hb dX11_readLetter_33 rfl (lv_at hl 2 rfl) ?_
      refine lv_iload hx hb dX11_readLetter_34 (lv_at hl 0 rfl) ?_
      refine lv_aload_n hx hb dX11_readLetter_36 rfl (lv_at hl 1 rfl) ?_
      refine zGetR (D := D) (ci := 11) (C := RX11) (T := TX11) (N := 16) hx hb hts hiX11 hown hH (zk_0 hF) rfl 0 (by decide) rfl hw1 (fun _ h9 => h9) dX11_readLetter_37 (zr_0_0 hF) ?_
      refine lv_iconst (v := nI 1) hx hb dX11_readLetter_40 (by decide) ?_
      refine lv_bipush (v := nI 99) hx hb dX11_readLetter_41 (by decide) ?_
      refine va_calli (va_runV (As := [.int (nI 1), .int (nI 99)]) (rest := [.int r210, .ref (τ.1 (3000 + q))]) ⟨hx, hb, hml, hown, hts⟩ (t_number l hl0 D A sad τ f219 fr ol L b220 hF q224 q222 (by omega) (by omega) (nI 1) (nI 99) (by decide)) (cwV 2 hts gX11_readLetter_X7_number rfl rfl rfl (by decide +kernel) ⟨Nat.le_of_ble_eq_true rfl, Nat.le_of_ble_eq_true rfl⟩) ⟨zQc_bl, zRecv hH (zk_1 hF) rfl, zQc_at hz hS hA hH⟩ rfl rfl hl.1 rfl (lv_room (Nat.le_of_ble_eq_true rfl)) dX11_readLetter_43 ⟨Nat.le_of_ble_eq_true rfl, Nat.le_of_ble_eq_true rfl⟩) hS (fun q _ h => h) (fun q h => h) (fun r226 u9 t9 H1 locs ht9 hvm9 hw hB hz1 hk1 hS => ?_)
      have hH := zMv ht9 hvm9 hB
      clear hB
      generalize u9 = f227 at hw hH
      generalize H1 = H at hH hS ⊢
      obtain ⟨b228, hb229, q230, hf231⟩ := zTw.num q222 (by omega) hw
      have q232 : f227 1 1 = nI L := by rw [hf231 1 1 (by omega)]; exact q224
      have q233 : f227 (3000 + q) 2 = nI l6 := by rw [hf231 (3000 + q) 2 (by omega)]; exact q225
      refine va_callv (va_runV (As := [.int r210, .int r226]) (rest := []) ⟨hx, hb, hml, hown, hts⟩ (c_addLine l hl0 D A sad τ f227 fr ol r210 r226 q hq5 hL l6 (by omega) q233) (cwV 2 hts gX11_readLetter_X2_addLine rfl rfl rfl (by decide +kernel) ⟨Nat.le_of_ble_eq_true rfl, Nat.le_of_ble_eq_true rfl⟩) ⟨zQc_bl, zRecv hH hL.1.1 rfl, zQc_at hz hS hA hH⟩ rfl rfl hl.1 rfl (lv_room (Nat.le_of_ble_eq_true rfl)) dX11_readLetter_46 ⟨Nat.le_of_ble_eq_true rfl, Nat.le_of_ble_eq_true rfl⟩) hS (fun q _ h => h) (fun q h => h) (fun u9 t9 H1 locs ht9 hvm9 hw hB hz1 hk1 hS => ?_)
      have hH := zMv ht9 hvm9 hB
      clear hB
      generalize u9 = f235 at hw hH
      generalize H1 = H at hH hS ⊢
      obtain ⟨⟨l236, hl237, q238⟩, hf239⟩ := zAl (by omega) q233 hw
      have q240 : f235 1 1 = nI L := by rw [hf239 1 1 (by omega)]; exact q232
      have q241 : f235 1 2 = nI b228 := by rw [hf239 1 2 (by omega)]; exact q230
      refine lv_iload_n hx hb dX11_readLetter_49 rfl (lv_at hl 4 rfl) ?_
      refine lv_iconst (v := nI 1) hx hb dX11_readLetter_50 (by decide) ?_
      refine lv_iadd hx hb dX11_readLetter_51 ?_
      refine lv_topi (fun v242 ev242 => ?_)
      obtain rfl : v242 = nI (i + 1) := ev242.trans (nI_add _ _)
      refine lv_bipush (v := nI 8) hx hb dX11_readLetter_52 (by decide) ?_
      refine lv_icmp_ge (tgt := 73) hx hb dX11_readLetter_54 (by decide) (fun c243 => ?_) (fun c243 => ?_)
      · have zc243 := c243
        replace zc243 := zc_le (nI_toInt (by omega)) (nI_toInt (by omega)) zc243
        refine lv_iconst (v := nI 0) hx hb dX11_readLetter_73 (by decide) ?_
        refine lv_istore_n (lv' := [(2, .int (nI 0)), (4, .int r210), (0, .ref (τ.1 0)), (1, .ref (τ.1 (3000 + q))), (3, .int (nI i))]) hx hb dX11_readLetter_74 rfl hl (by decide) rfl (fun ls hl => ?_)
        refine lv_iinc (v := nI (i + 1)) (lv' := [(3, .int (nI (i + 1))), (2, .int (nI 0)), (4, .int r210), (0, .ref (τ.1 0)), (1, .ref (τ.1 (3000 + q)))]) hx hb dX11_readLetter_75 hl (k := 4) rfl (by rw [show (Int32.ofInt 1 : Int32) = nI 1 from by decide, nI_add]) (by decide) rfl (fun ls hl => ?_)
        refine lv_goto (tgt := 4) hx hb dX11_readLetter_78 (by decide) ?_
        exact ih101 (8 - (i + 1)) (by omega) (i + 1, _, f235) _ _ _ (show 8 - (i + 1) = 8 - (i + 1) ∧ ((i + 1) ≤ 8 ∧ (∃ b, b ≤ L ∧ f235 1 2 = nI b) ∧ (∃ l, l ≤ 8 ∧ f235 (3000 + q) 2 = nI l) ∧ ∀ a b, ¬ ((a = 1 ∧ 2 ≤ b) ∨ (a = 3000 + q ∧ 2 ≤ b ∧ b ≤ 4) ∨ a = 4000 + q ∨ a = 5000 + q) → f235 a b = fi a b) ∧ zH D A τ f235 fr ol s _ ∧ va_S A s.heap _ _ ∧ lv_has _ 5 [(0, .ref (τ.1 0)), (1, .ref (τ.1 (3000 + q))), (2, .int _), (3, .int (nI (i + 1)))] from ⟨rfl, ⟨by omega, ⟨b228, by omega, q241⟩, ⟨l236, by omega, q238⟩, fun a b h => by rw [hf239 a b (by omega), hf231 a b (by omega), hf223 a b (by omega), hf215 a b (by omega)]; exact hfr a b h⟩, hH, hS, lv_sub hl [3, 4, 1, 0] rfl⟩)
      · have zc243 := c243
        replace zc243 := zc_nle (nI_toInt (by omega)) (nI_toInt (by omega)) zc243
        refine lv_aload_n hx hb dX11_readLetter_57 rfl (lv_at hl 1 rfl) ?_
        refine zGetR (D := D) (ci := 11) (C := RX11) (T := TX11) (N := 16) hx hb hts hiX11 hown hH (zk_0 hF) rfl 0 (by decide) rfl hw1 (fun _ h9 => h9) dX11_readLetter_58 (zr_0_0 hF) ?_
        refine lv_bipush (v := nI 44) hx hb dX11_readLetter_61 (by decide) ?_
        refine va_calli (va_runV (As := [.int (nI 44)]) (rest := []) ⟨hx, hb, hml, hown, hts⟩ (t_takesSign l hl0 D A sad τ f235 fr ol L b228 hF q240 q241 (by omega) (by omega) (nI 44)) (cwV 1 hts gX11_readLetter_X7_takesSign rfl rfl rfl (by decide +kernel) ⟨Nat.le_of_ble_eq_true rfl, Nat.le_of_ble_eq_true rfl⟩) ⟨zQc_bl, zRecv hH (zk_1 hF) rfl, zQc_at hz hS hA hH⟩ rfl rfl hl.1 rfl (lv_room (Nat.le_of_ble_eq_true rfl)) dX11_readLetter_63 ⟨Nat.le_of_ble_eq_true rfl, Nat.le_of_ble_eq_true rfl⟩) hS (fun q _ h => h) (fun q h => h) (fun r244 u9 t9 H1 locs ht9 hvm9 hw hB hz1 hk1 hS => ?_)
        have hH := zMv ht9 hvm9 hB
        clear hB
        generalize u9 = f245 at hw hH
        generalize H1 = H at hH hS ⊢
        have hsg : r244 = 1 ∨ r244 = 0 := hw.elim (fun h => Or.inl h.1) (fun h => Or.inr h.1)
        obtain ⟨b246, hb247, q248, hf249⟩ := zTw.sign q241 (by omega) hw
        have q250 : f245 1 1 = nI L := by rw [hf249 1 1 (by omega)]; exact q240
        have q251 : f245 (3000 + q) 2 = nI l236 := by rw [hf249 (3000 + q) 2 (by omega)]; exact q238
        refine lv_if_eq (tgt := 73) hx hb dX11_readLetter_66 (by decide) (fun c252 => ?_) (fun c252 => ?_)
        · have zc252 := c252
          replace zc252 := zc_eq (rfl) ((by decide : (0 : Int32).toInt = 0)) zc252
          refine lv_iconst (v := nI 0) hx hb dX11_readLetter_73 (by decide) ?_
          refine lv_istore_n (lv' := [(2, .int (nI 0)), (4, .int r210), (0, .ref (τ.1 0)), (1, .ref (τ.1 (3000 + q))), (3, .int (nI i))]) hx hb dX11_readLetter_74 rfl hl (by decide) rfl (fun ls hl => ?_)
          refine lv_iinc (v := nI (i + 1)) (lv' := [(3, .int (nI (i + 1))), (2, .int (nI 0)), (4, .int r210), (0, .ref (τ.1 0)), (1, .ref (τ.1 (3000 + q)))]) hx hb dX11_readLetter_75 hl (k := 4) rfl (by rw [show (Int32.ofInt 1 : Int32) = nI 1 from by decide, nI_add]) (by decide) rfl (fun ls hl => ?_)
          refine lv_goto (tgt := 4) hx hb dX11_readLetter_78 (by decide) ?_
          exact ih101 (8 - (i + 1)) (by omega) (i + 1, _, f245) _ _ _ (show 8 - (i + 1) = 8 - (i + 1) ∧ ((i + 1) ≤ 8 ∧ (∃ b, b ≤ L ∧ f245 1 2 = nI b) ∧ (∃ l, l ≤ 8 ∧ f245 (3000 + q) 2 = nI l) ∧ ∀ a b, ¬ ((a = 1 ∧ 2 ≤ b) ∨ (a = 3000 + q ∧ 2 ≤ b ∧ b ≤ 4) ∨ a = 4000 + q ∨ a = 5000 + q) → f245 a b = fi a b) ∧ zH D A τ f245 fr ol s _ ∧ va_S A s.heap _ _ ∧ lv_has _ 5 [(0, .ref (τ.1 0)), (1, .ref (τ.1 (3000 + q))), (2, .int _), (3, .int (nI (i + 1)))] from ⟨rfl, ⟨by omega, ⟨b246, by omega, q248⟩, ⟨l236, by omega, q251⟩, fun a b h => by rw [hf249 a b (by omega), hf239 a b (by omega), hf231 a b (by omega), hf223 a b (by omega), hf215 a b (by omega)]; exact hfr a b h⟩, hH, hS, lv_sub hl [3, 4, 1, 0] rfl⟩)
        · have zc252 := c252
          replace zc252 := zc_neq (rfl) ((by decide : (0 : Int32).toInt = 0)) zc252
          refine lv_iconst (v := nI 1) hx hb dX11_readLetter_69 (by decide) ?_
          refine lv_goto (tgt := 74) hx hb dX11_readLetter_70 (by decide) ?_
          refine lv_istore_n (lv' := [(2, .int (nI 1)), (4, .int r210), (0, .ref (τ.1 0)), (1, .ref (τ.1 (3000 + q))), (3, .int (nI i))]) hx hb dX11_readLetter_74 rfl hl (by decide) rfl (fun ls hl => ?_)
          refine lv_iinc (v := nI (i + 1)) (lv' := [(3, .int (nI (i + 1))), (2, .int (nI 1)), (4, .int r210), (0, .ref (τ.1 0)), (1, .ref (τ.1 (3000 + q)))]) hx hb dX11_readLetter_75 hl (k := 4) rfl (by rw [show (Int32.ofInt 1 : Int32) = nI 1 from by decide, nI_add]) (by decide) rfl (fun ls hl => ?_)
          refine lv_goto (tgt := 4) hx hb dX11_readLetter_78 (by decide) ?_
          exact ih101 (8 - (i + 1)) (by omega) (i + 1, _, f245) _ _ _ (show 8 - (i + 1) = 8 - (i + 1) ∧ ((i + 1) ≤ 8 ∧ (∃ b, b ≤ L ∧ f245 1 2 = nI b) ∧ (∃ l, l ≤ 8 ∧ f245 (3000 + q) 2 = nI l) ∧ ∀ a b, ¬ ((a = 1 ∧ 2 ≤ b) ∨ (a = 3000 + q ∧ 2 ≤ b ∧ b ≤ 4) ∨ a = 4000 + q ∨ a = 5000 + q) → f245 a b = fi a b) ∧ zH D A τ f245 fr ol s _ ∧ va_S A s.heap _ _ ∧ lv_has _ 5 [(0, .ref (τ.1 0)), (1, .ref (τ.1 (3000 + q))), (2, .int _), (3, .int (nI (i + 1)))] from ⟨rfl, ⟨by omega, ⟨b246, by omega, q248⟩, ⟨l236, by omega, q251⟩, fun a b h => by rw [hf249 a b (by omega), hf239 a b (by omega), hf231 a b (by omega), hf223 a b (by omega), hf215 a b (by omega)]; exact hfr a b h⟩, hH, hS, lv_sub hl [3, 4, 1, 0] rfl⟩)
