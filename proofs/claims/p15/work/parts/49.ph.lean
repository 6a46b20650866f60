set_option maxHeartbeats 4000000 in
set_option maxRecDepth 100000 in
/-- settle -/
theorem c_settle (l : Launch) (hl0 : l.stackTraces = false) (D : va_G) (A : Nat → Prop) (sad : Nat → Nat) (τ : zTy) (fi : zFi) (fr : zFr) (ol : Int64) (x y : Int32) (hF : zFix τ fr) (n : Nat) (hT : zTh τ fi fr n) (o : Nat) (hO : zOr τ fi fr n o) (d : Nat) (hDo : zDo τ fi fr d) : vx_Met l yX11_settle wsX11_settle ({ frames := 7, cells := 12, slots := 106, locals := 115 }) (va_Pc [.ref (τ.1 0), .int x, .int y] (zQc D A sad τ fi fr ol)) (va_Qi (fun (r : Int32) (u : zTy × zFi × zFr) => (u.1 = τ ∧ u.2.2 = fr ∧ ((∃ b, b < d ∧ x = nI b ∧ u.2.1 = zu fi (3000 + b) 9 (nI 0)) ∨ u.2.1 = fi)) ∨ (∃ b, b < d ∧ x = nI b ∧ r = nI o ∧ zNO τ (zu fi (3000 + b) 9 (nI 0)) fr n o u.1 u.2.1 u.2.2)) (fun (u : zTy × zFi × zFr) (t : State) => zH D A u.1 u.2.1 u.2.2 ol t t.heap) A) (vx_X (fun u : Unit => True) (fun (E : String) (u : Unit) (t : State) => (E = "java/lang/IndexOutOfBoundsException" ∨ E = "java/lang/IllegalStateException" ∨ E = "java/lang/UnsupportedOperationException") ∧ zH D A τ fi fr ol t t.heap) A) 12 106 A := by
  refine vx_ofW (cc := cX11_settle) (maxL := 4) (ret := (some .int)) (by decide) rfl ?_
  intro p9 e9 s m args below meth c9 s₁ B hml ht0 hv
  obtain ⟨rfl, hz, hH, hA⟩ := hv
  have hx := B.exec
  have hb := B.bytes
  have hr := B.returns
  have hts := atoms_spec (ws := wsX11_settle) B.pre
  have hown : s.vm.findClass RX11 = some m.cls := findClass_of_methodNamed B.named
  have hlocks := B.notSynchronized
  have hS : va_S A s.heap s.heap [] := va_S.rf
  have hl := lv_entry ([.ref (τ.1 0), .int x, .int y]) (n := 4) (Nat.le_of_ble_eq_true rfl)
  rw [lg_entry_eq]
  generalize (lg_sl ([.ref (τ.1 0), .int x, .int y]) ++ List.replicate (4 - (lg_sl ([.ref (τ.1 0), .int x, .int y])).length) Slot.unset).toArray = ls at hl ⊢
  have hl : lv_has ls 4 [(0, .ref (τ.1 0)), (1, .int x), (2, .int y)] := hl
  have hn30 := hT.1
  have hiX2 : ∀ w ∈ u_ws RX2 TX2 10, w ∈ wsX11_settle := fun _ h => List.mem_cons_of_mem _ (List.mem_append_left _ (List.mem_append_left _ (List.mem_append_left _ (List.mem_append_left _ (List.mem_append_left _ (List.mem_append_left _ (List.mem_append_left _ (List.mem_append_left _ (List.mem_append_left _ (List.mem_append_right _ h))))))))))
  have hw1 := hts (.fieldLink RX11 220 "PostHouse$Letter" "waits" "Z") (by decide +kernel)
  have hw2 := hts (.classLink RX11 242 "java/lang/IllegalStateException") (by decide +kernel)
  have hw3 := hts (.initialized "java/lang/IllegalStateException") (by decide +kernel)
  refine lv_aload_n hx hb dX11_settle_0 rfl (lv_at hl 0 rfl) ?_
  refine lv_iload_n hx hb dX11_settle_1 rfl (lv_at hl 1 rfl) ?_
  refine vx_callq (vx_runV (As := [.int x]) (rest := []) ⟨hx, hb, hml, hown, hts⟩ (c_doubtAt l hl0 D A sad τ fi fr ol x hF d hDo) (cwV 1 hts gX11_settle_X11_doubtAt rfl rfl rfl (by decide +kernel) ⟨Nat.le_of_ble_eq_true rfl, Nat.le_of_ble_eq_true rfl⟩) ⟨zQc_bl, zRecv hH (zk_0 hF) rfl, zQc_at hz hS hA hH⟩ rfl rfl hl.1 rfl (lv_room (Nat.le_of_ble_eq_true rfl)) dX11_settle_2 ⟨Nat.le_of_ble_eq_true rfl, Nat.le_of_ble_eq_true rfl⟩) hS (fun q _ h => h) (fun q h => h) (fun q _ h => h) (fun E ce q9 u9 t9 H1 locs ht9 hvm9 hw hB hz1 hk1 hS hce hcv hcl => ?_) (fun r101 u9 t9 H1 locs ht9 hvm9 hw hB hz1 hk1 hS => ?_)
  · obtain ⟨hX, hB⟩ := hB
    have hH := zMv ht9 hvm9 hB
    generalize H1 = H at hH hS hce ⊢
    exact vx_out (fun x h9 => (ht0 x h9).elim) hlocks hce hcv hcl (fun t9 ht9 hvm9 => ⟨(), trivial, ⟨Or.inl hX.1, zOut hH ht9 hvm9⟩, hS.F ht9⟩) hS.2.2 (by decide) (by decide)
  · skip
    have hH := zMv ht9 hvm9 hB
    generalize H1 = H at hH hS ⊢
    refine W.widen (k := 1) (n := 6) (by decide) (by decide) ?_
    obtain ⟨q, hq, rfl, rfl⟩ := hw
    have hL := hDo.lk hq
    have hq5 : q ≤ 512 := by have := hDo.1; omega
    obtain ⟨l0, hl8, hln⟩ := (hDo.2.2.1 q hq).2.2.1
    refine lv_astore_n (lv' := [(3, .ref (τ.1 (3000 + q))), (0, .ref (τ.1 0)), (1, .int (nI q)), (2, .int y)]) hx hb dX11_settle_5 rfl hl (by decide) rfl (fun ls hl => ?_)
    refine lv_aload_n hx hb dX11_settle_6 rfl (lv_at hl 0 rfl) ?_
    refine zGetI (D := D) (ci := 2) (C := RX2) (T := TX2) (N := 10) hx hb hts hiX2 hown hH hL.1.1 rfl 9 (by decide) rfl hw1 (fun _ h9 => h9) dX11_settle_7 rfl ?_
    refine lv_if_ne (tgt := 23) hx hb dX11_settle_10 (by decide) (fun c102 => ?_) (fun c102 => ?_)
    · have zc102 := c102
      replace zc102 := zc_neq (rfl) ((by decide : (0 : Int32).toInt = 0)) zc102
      refine lv_iload_n hx hb dX11_settle_23 rfl (lv_at hl 3 rfl) ?_
      refine lv_if_ne (tgt := 34) hx hb dX11_settle_24 (by decide) (fun c103 => ?_) (fun c103 => ?_)
      · have zc103 := c103
        replace zc103 := zc_neq (rfl) ((by decide : (0 : Int32).toInt = 0)) zc103
        refine lv_aload_n hx hb dX11_settle_34 rfl (lv_at hl 1 rfl) ?_
        refine lv_aload_n hx hb dX11_settle_35 rfl (lv_at hl 0 rfl) ?_
        refine va_calli (va_runV (As := [.ref (τ.1 (3000 + q))]) (rest := []) ⟨hx, hb, hml, hown, hts⟩ (c_isPaid l hl0 D A sad τ fi fr ol hF n hT q hq5 hL l0 (by omega) hln) (cwV 1 hts gX11_settle_X11_isPaid rfl rfl rfl (by decide +kernel) ⟨Nat.le_of_ble_eq_true rfl, Nat.le_of_ble_eq_true rfl⟩) ⟨zQc_bl, zRecv hH (zk_0 hF) rfl, zQc_at hz hS hA hH⟩ rfl rfl hl.1 rfl (lv_room (Nat.le_of_ble_eq_true rfl)) dX11_settle_36 ⟨Nat.le_of_ble_eq_true rfl, Nat.le_of_ble_eq_true rfl⟩) hS (fun q _ h => h) (fun q h => h) (fun r104 u9 t9 H1 locs ht9 hvm9 hw hB hz1 hk1 hS => ?_)
        have hH := zMv ht9 hvm9 hB
        generalize H1 = H at hH hS ⊢
        refine lv_if_ne (tgt := 44) hx hb dX11_settle_39 (by decide) (fun c105 => ?_) (fun c105 => ?_)
        · have zc105 := c105
          replace zc105 := zc_neq (rfl) ((by decide : (0 : Int32).toInt = 0)) zc105
          refine lv_aload_n hx hb dX11_settle_44 rfl (lv_at hl 1 rfl) ?_
          refine vx_callv (vx_runV (As := []) (rest := []) ⟨hx, hb, hml, hown, hts⟩ (c_needRoom l hl0 D A sad τ fi fr ol o hF hO.2.1 hO.1) (cwV 0 hts gX11_settle_X11_needRoomForOrder rfl rfl rfl (by decide +kernel) ⟨Nat.le_of_ble_eq_true rfl, Nat.le_of_ble_eq_true rfl⟩) ⟨zQc_bl, zRecv hH (zk_0 hF) rfl, zQc_at hz hS hA hH⟩ rfl rfl hl.1 rfl (lv_room (Nat.le_of_ble_eq_true rfl)) dX11_settle_45 ⟨Nat.le_of_ble_eq_true rfl, Nat.le_of_ble_eq_true rfl⟩) hS (fun q _ h => h) (fun q h => h) (fun q _ h => h) (fun E ce q9 u9 t9 H1 locs ht9 hvm9 hw hB hz1 hk1 hS hce hcv hcl => ?_) (fun u9 t9 H1 locs ht9 hvm9 hw hB hz1 hk1 hS => ?_)
          · obtain ⟨hX, hB⟩ := hB
            have hH := zMv ht9 hvm9 hB
            generalize H1 = H at hH hS hce ⊢
            exact vx_out (fun x h9 => (ht0 x h9).elim) hlocks hce hcv hcl (fun t9 ht9 hvm9 => ⟨(), trivial, ⟨Or.inr (Or.inr hX.1), zOut hH ht9 hvm9⟩, hS.F ht9⟩) hS.2.2 (by decide) (by decide)
          · skip
            have hH := zMv ht9 hvm9 hB
            generalize H1 = H at hH hS ⊢
            refine W.widen (k := 2) (n := 12) (by decide) (by decide) ?_
            have ho := hw
            refine lv_aload_n hx hb dX11_settle_48 rfl (lv_at hl 0 rfl) ?_
            refine lv_iconst (v := nI 0) hx hb dX11_settle_49 (by decide) ?_
            refine zPutI (D := D) (ci := 2) (ty := .boolean) (C := RX2) (T := TX2) (N := 10) hx hb hts hiX2 tyX2 tyX2_ok nmX2 hown hH hS hL.1.1 rfl 9 (by decide) rfl hw1 (fun _ h9 => h9) rfl (by decide +kernel) rfl rfl dX11_settle_50 (fun H locs hH hS => ?_)
            obtain ⟨f107, ef107⟩ : ∃ f9 : zFi, f9 = zu fi (3000 + q) 9 (nI 0) := ⟨_, rfl⟩
            rw [← ef107] at hH
            have q108 : f107 (3000 + q) 2 = nI l0 := by rw [ef107, zu_n (fun h9 => absurd h9.2 (by decide))]; exact hln
            have q109 : f107 (3000 + q) 9 = nI 0 := by rw [ef107]; exact zu_s
            have hT := zTh.ci (fi' := f107) hT (fun i9 k9 h9 => by rw [ef107]; exact zu_n (by omega))
            have hO := zOr.ci (fi' := f107) hO (fun i9 k9 h9 => by rw [ef107]; exact zu_n (by omega))
            refine lv_aload_n hx hb dX11_settle_53 rfl (lv_at hl 1 rfl) ?_
            refine lv_aload_n hx hb dX11_settle_54 rfl (lv_at hl 0 rfl) ?_
            refine va_calli (va_runV (As := [.ref (τ.1 (3000 + q))]) (rest := []) ⟨hx, hb, hml, hown, hts⟩ (c_makeOrder l hl0 D A sad τ f107 fr ol hF n hT q hq5 hL l0 (by omega) q108 o hO ho) (cwV 1 hts gX11_settle_X11_makeOrder rfl rfl rfl (by decide +kernel) ⟨Nat.le_of_ble_eq_true rfl, Nat.le_of_ble_eq_true rfl⟩) ⟨zQc_bl, zRecv hH (zk_0 hF) rfl, zQc_at hz hS hA hH⟩ rfl rfl hl.1 rfl (lv_room (Nat.le_of_ble_eq_true rfl)) dX11_settle_55 ⟨Nat.le_of_ble_eq_true rfl, Nat.le_of_ble_eq_true rfl⟩) hS (fun q _ h => h) (fun q h => h) (fun r110 u9 t9 H1 locs ht9 hvm9 hw hB hz1 hk1 hS => ?_)
            obtain ⟨τ111, f112, g113⟩ := u9
            have hH := zMv ht9 hvm9 hB
            clear hB
            simp only at hw hH
            generalize H1 = H at hH hS ⊢
            refine W.widen (k := 12) (n := 106) (by decide) (by decide) ?_
            have hmo114 := hw
            clear hw
            refine W.widen (k := 12) (n := 106) (by decide) (by decide) ?_
            refine vx_ret ?_
            exact W.iret (v := r110) hx hb hr (fun t9 ht9 hW9 => ⟨⟨r110, (τ111, f112, g113), rfl, (show (τ111 = τ ∧ g113 = fr ∧ ((∃ b, b < d ∧ (nI q) = nI b ∧ f112 = zu fi (3000 + b) 9 (nI 0)) ∨ f112 = fi)) ∨ (∃ b, b < d ∧ (nI q) = nI b ∧ r110 = nI o ∧ zNO τ (zu fi (3000 + b) 9 (nI 0)) fr n o τ111 f112 g113) from Or.inr ⟨q, hq, rfl, hmo114.1, by rw [← ef107]; exact hmo114.2⟩), zEnd1 hH ht9 hW9⟩, hS.F ht9⟩) hS.2.2 dX11_settle_58
        · have zc105 := c105
          replace zc105 := zc_eq (rfl) ((by decide : (0 : Int32).toInt = 0)) zc105
          refine lv_iconst (v := (-1)) hx hb dX11_settle_42 (by decide) ?_
          refine W.widen (k := 12) (n := 106) (by decide) (by decide) ?_
          refine vx_ret ?_
          exact W.iret (v := (-1)) hx hb hr (fun t9 ht9 hW9 => ⟨⟨(-1), (τ, fi, fr), rfl, (show (τ = τ ∧ fr = fr ∧ ((∃ b, b < d ∧ (nI q) = nI b ∧ fi = zu fi (3000 + b) 9 (nI 0)) ∨ fi = fi)) ∨ (∃ b, b < d ∧ (nI q) = nI b ∧ ((-1)) = nI o ∧ zNO τ (zu fi (3000 + b) 9 (nI 0)) fr n o τ fi fr) from Or.inl ⟨rfl, rfl, Or.inr rfl⟩), zEnd1 hH ht9 hW9⟩, hS.F ht9⟩) hS.2.2 dX11_settle_43
      · have zc103 := c103
        replace zc103 := zc_eq (rfl) ((by decide : (0 : Int32).toInt = 0)) zc103
        refine lv_aload_n hx hb dX11_settle_27 rfl (lv_at hl 0 rfl) ?_
        refine lv_iconst (v := nI 0) hx hb dX11_settle_28 (by decide) ?_
        refine zPutI (D := D) (ci := 2) (ty := .boolean) (C := RX2) (T := TX2) (N := 10) hx hb hts hiX2 tyX2 tyX2_ok nmX2 hown hH hS hL.1.1 rfl 9 (by decide) rfl hw1 (fun _ h9 => h9) rfl (by decide +kernel) rfl rfl dX11_settle_29 (fun H locs hH hS => ?_)
        obtain ⟨f115, ef115⟩ : ∃ f9 : zFi, f9 = zu fi (3000 + q) 9 (nI 0) := ⟨_, rfl⟩
        rw [← ef115] at hH
        have q116 : f115 (3000 + q) 2 = nI l0 := by rw [ef115, zu_n (fun h9 => absurd h9.2 (by decide))]; exact hln
        have q117 : f115 (3000 + q) 9 = nI 0 := by rw [ef115]; exact zu_s
        have hT := zTh.ci (fi' := f115) hT (fun i9 k9 h9 => by rw [ef115]; exact zu_n (by omega))
        have hO := zOr.ci (fi' := f115) hO (fun i9 k9 h9 => by rw [ef115]; exact zu_n (by omega))
        refine lv_iconst (v := (-1)) hx hb dX11_settle_32 (by decide) ?_
        refine W.widen (k := 12) (n := 106) (by decide) (by decide) ?_
        refine vx_ret ?_
        exact W.iret (v := (-1)) hx hb hr (fun t9 ht9 hW9 => ⟨⟨(-1), (τ, f115, fr), rfl, (show (τ = τ ∧ fr = fr ∧ ((∃ b, b < d ∧ (nI q) = nI b ∧ f115 = zu fi (3000 + b) 9 (nI 0)) ∨ f115 = fi)) ∨ (∃ b, b < d ∧ (nI q) = nI b ∧ ((-1)) = nI o ∧ zNO τ (zu fi (3000 + b) 9 (nI 0)) fr n o τ f115 fr) from Or.inl ⟨rfl, rfl, Or.inl ⟨q, hq, rfl, ef115⟩⟩), zEnd1 hH ht9 hW9⟩, hS.F ht9⟩) hS.2.2 dX11_settle_33
    · have zc102 := c102
      replace zc102 := zc_eq (rfl) ((by decide : (0 : Int32).toInt = 0)) zc102
      obtain ⟨a118, ha118⟩ := hz.1.2.2.2.2.1 _ (List.mem_of_getElem? (i := 12) rfl)
      have hat : ∀ w ∈ vx_atS RX11 246 "java/lang/IllegalStateException" ["java/lang/RuntimeException", "java/lang/Exception"], w.before _ s = true := vx_hat (fun w h => hts w (List.mem_cons_of_mem _ (List.mem_append_left _ (List.mem_append_left _ (List.mem_append_right _ h))))) (B := [.castable "java/lang/IllegalStateException" "java/lang/IllegalStateException", .declares (Bundle.initS "java/lang/RuntimeException"), .declares (Bundle.initS "java/lang/Exception"), .declares (Bundle.initS Bundle.tN)]) (by decide +kernel) (vx_c (va_Nw.use rfl (hz.1.2.2.2.2.2.2.2.1 _ (List.mem_of_getElem? (i := 4) rfl))) (vx_c (va_Nw.use rfl (hz.1.2.2.2.2.2.2.2.2 _ (List.mem_of_getElem? (i := 0) rfl))) (vx_c (va_Nw.use rfl (hz.1.2.2.2.2.2.2.2.2 _ (List.mem_of_getElem? (i := 1) rfl))) (vx_c (va_Nw.use rfl (hz.1.2.2.2.2.2.2.2.2 _ (List.mem_of_getElem? (i := 2) rfl))) vx_n))))
      exact vx_throwS hx hb hl0 (own := RX11) (cls := "java/lang/IllegalStateException") (text := "the doubt does not wait") (names := ["java/lang/RuntimeException", "java/lang/Exception"]) hown (by decide +kernel) (by decide +kernel) hw2 hw3 ha118 hat (by decide +kernel) hz.1.1 hz.1.2.1 hS (by rw [hml]; exact hl.1) dX11_settle_13 dX11_settle_16 dX11_settle_17 dX11_settle_19 dX11_settle_22 (fun x h9 => (ht0 x h9).elim) (Nat.le_of_ble_eq_true rfl) (Nat.le_of_ble_eq_true rfl) (Nat.le_of_ble_eq_true rfl) (Nat.le_of_ble_eq_true rfl) hlocks (fun t9 hvm9 h91 h92 => ⟨(), trivial, ⟨Or.inr (Or.inl rfl), zThr hH hvm9 h92⟩, zF2 hS h91 h92⟩) hS.2.2 (by decide) (by decide)
/-- the doubts, with a letter beside them -/
def zDa (τ : zTy) (fi : zFi) (fr : zFr) (d : Nat) : Prop := d ≤ 512 ∧ fi 0 10 = nI d ∧
  (∀ k, k < d → (τ.2.2.1 (3000 + k) = 18 ∧ τ.2.2.1 (4000 + k) = 1 ∧ τ.2.2.1 (5000 + k) = 1 ∧ τ.2.2.2 (4000 + k) = 8 ∧ τ.2.2.2 (5000 + k) = 8) ∧ (fr 15 k = some (3000 + k) ∧ fr (3000 + k) 0 = some (4000 + k) ∧ fr (3000 + k) 1 = some (5000 + k)) ∧ (∃ l, l ≤ 8 ∧ fi (3000 + k) 2 = nI l) ∧ (fi (3000 + k) 9 = 0 ∨ fi (3000 + k) 9 = 1)) ∧ True
theorem zDa.ci {τ : zTy} {fi fi' : zFi} {fr : zFr} {d : Nat} (h : zDa τ fi fr d) (hi : ∀ i k, (i = 0 ∧ k = 10) ∨ (3000 ≤ i ∧ i < 3000 + d ∧ (k = 2 ∨ k = 9)) → fi' i k = fi i k) : zDa τ fi' fr d := by
  obtain ⟨h1, h2, h3, -⟩ := h
  exact ⟨h1, by rw [hi 0 10 (by omega)]; exact h2, fun k hk => ⟨(h3 k hk).1, (h3 k hk).2.1, by rw [hi _ 2 (by omega)]; exact (h3 k hk).2.2.1, by rw [hi _ 9 (by omega)]; exact (h3 k hk).2.2.2⟩, trivial⟩
/-- a new letter: all that was stays -/
def zLw (τ : zTy) (fi : zFi) (fr : zFr) (q : Nat) (τ' : zTy) (fi' : zFi) (fr' : zFr) : Prop := (zLk τ' fr' q ∧ zFix τ' fr') ∧
  (∀ i, ¬ (i = 3000 + q ∨ i = 4000 + q ∨ i = 5000 + q) → τ'.1 i = τ.1 i ∧ τ'.2.2.1 i = τ.2.2.1 i ∧ τ'.2.2.2 i = τ.2.2.2 i) ∧ (∀ i k, ¬ (i = 3000 + q ∨ i = 4000 + q ∨ i = 5000 + q) → fi' i k = fi i k) ∧ (∀ i k, ¬ (i = 3000 + q ∨ i = 4000 + q ∨ i = 5000 + q) → fr' i k = fr i k) ∧
  (∀ k, fi' (3000 + q) k = 0) ∧ ∀ k, fr' (4000 + q) k = none ∧ fr' (5000 + q) k = none
theorem zLw.of {τ τ1 τ2 : zTy} {fi f1 f2 : zFi} {fr g1 g2 : zFr} {q : Nat} (hq : q ≤ 512) (ha : ∀ i, i ≠ 3000 + q → τ1.1 i = τ.1 i) (hb : ∀ i, i ≠ 3000 + q → τ1.2.2.1 i = τ.2.2.1 i ∧ τ1.2.2.2 i = τ.2.2.2 i) (ef : f1 = va_up fi (3000 + q) (fun _ => 0)) (eg : g1 = va_up fr (3000 + q) (fun _ => none)) (hN : zLN τ1 f1 g1 q τ2 f2 g2) : zLw τ fi fr q τ2 f2 g2 := by
  obtain ⟨n1, n2, n3, n4, n5, n6⟩ := hN
  refine ⟨⟨n2, n3⟩, fun i h => ?_, fun i k h => by rw [n4 i k (by omega) (by omega), ef, va_up_ne _ _ (by omega)], fun i k h => by rw [n5 i k (by omega) (by omega) (by omega), eg, va_up_ne _ _ (by omega)], fun k => by rw [n4 _ _ (by omega) (by omega), ef, va_up_self], n6⟩
  obtain ⟨q1, q2, q3⟩ := n1 i (by omega) (by omega)
  exact ⟨by rw [q1, ha i (by omega)], by rw [q2, (hb i (by omega)).1], by rw [q3, (hb i (by omega)).2]⟩
theorem zDa.of {τ τ' : zTy} {fi fi' : zFi} {fr fr' : zFr} {q : Nat} (h : zDo τ fi fr q) (hw : zLw τ fi fr q τ' fi' fr') : zDa τ' fi' fr' q := by
  obtain ⟨h1, h2, h3, -⟩ := h
  obtain ⟨-, w1, w2, w3, -, -⟩ := hw
  refine ⟨h1, by rw [w2 _ _ (by omega)]; exact h2, fun k hk => ?_, trivial⟩
  obtain ⟨⟨a1, a2, a3, a4, a5⟩, ⟨b1, b2, b3⟩, ⟨l, c1, c2⟩, c3⟩ := h3 k hk
  exact ⟨⟨by rw [(w1 _ (by omega)).2.1]; exact a1, by rw [(w1 _ (by omega)).2.1]; exact a2, by rw [(w1 _ (by omega)).2.1]; exact a3, by rw [(w1 _ (by omega)).2.2]; exact a4, by rw [(w1 _ (by omega)).2.2]; exact a5⟩, ⟨by rw [w3 _ _ (by omega)]; exact b1, by rw [w3 _ _ (by omega)]; exact b2, by rw [w3 _ _ (by omega)]; exact b3⟩, ⟨l, c1, by rw [w2 _ _ (by omega)]; exact c2⟩, by rw [w2 _ _ (by omega)]; exact c3⟩
/-- the letter is forgotten -/
def zDr (τ : zTy) (q : Nat) : zTy := (τ.1, τ.2.1, va_up (va_up (va_up τ.2.2.1 (3000 + q) 0) (4000 + q) 0) (5000 + q) 0, τ.2.2.2)
theorem zDr.n {τ : zTy} {q i : Nat} (h : ¬ (i = 3000 + q ∨ i = 4000 + q ∨ i = 5000 + q)) : (zDr τ q).2.2.1 i = τ.2.2.1 i := by
  show va_up (va_up (va_up τ.2.2.1 (3000 + q) 0) (4000 + q) 0) (5000 + q) 0 i = _
  rw [va_up_ne _ _ (by omega), va_up_ne _ _ (by omega), va_up_ne _ _ (by omega)]
theorem zDr.y {τ : zTy} {q i : Nat} (h : i = 3000 + q ∨ i = 4000 + q ∨ i = 5000 + q) : (zDr τ q).2.2.1 i = 0 := by
  show va_up (va_up (va_up τ.2.2.1 (3000 + q) 0) (4000 + q) 0) (5000 + q) 0 i = _
  rcases h with h | h | h <;> subst h
  · rw [va_up_ne _ _ (by omega), va_up_ne _ _ (by omega), va_up_self]
  · rw [va_up_ne _ _ (by omega), va_up_self]
  · rw [va_up_self]
theorem zH.dropL {D : va_G} {A : Nat → Prop} {τ : zTy} {fi : zFi} {fr : zFr} {ol : Int64} {s : State} {H : Heap} {q : Nat} (h : zH D A τ fi fr ol s H) (hn : ∀ j k r, j ≠ 3000 + q → τ.2.2.1 j ≠ 0 → fr j k = some r → r ≠ 3000 + q ∧ r ≠ 4000 + q ∧ r ≠ 5000 + q) : zH D A (zDr τ q) fi fr ol s H := by
  have h1 := h.drop (3000 + q) (fun j k a b e => (hn j k _ a b e).1 rfl)
  have h2 := h1.drop (4000 + q) (fun j k a b e => by
    have b : va_up τ.2.2.1 (3000 + q) 0 j ≠ 0 := b
    have hj : j ≠ 3000 + q := fun e2 => b (by rw [e2, va_up_self])
    rw [va_up_ne _ _ hj] at b
    exact (hn j k _ hj b e).2.1 rfl)
  exact h2.drop (5000 + q) (fun j k a b e => by
    have b : va_up (va_up τ.2.2.1 (3000 + q) 0) (4000 + q) 0 j ≠ 0 := b
    have hj4 : j ≠ 4000 + q := fun e2 => b (by rw [e2, va_up_self])
    rw [va_up_ne _ _ hj4] at b
    have hj : j ≠ 3000 + q := fun e2 => b (by rw [e2, va_up_self])
    rw [va_up_ne _ _ hj] at b
    exact (hn j k _ hj b e).2.2 rfl)
theorem zFix.dr {τ : zTy} {fr : zFr} {q : Nat} (h : zFix τ fr) : zFix (zDr τ q) fr := ⟨fun i hi => by rw [zDr.n (by omega)]; exact h.1 i hi, h.2.1, h.2.2⟩
/-- nobody tells of the letter -/
theorem zLw.no {τ τ' : zTy} {fi fi' : zFi} {fr fr' : zFr} {q : Nat} (hw : zLw τ fi fr q τ' fi' fr') (hc : zCl τ fr) (hd : τ.2.2.1 (3000 + q) = 0 ∧ τ.2.2.1 (4000 + q) = 0 ∧ τ.2.2.1 (5000 + q) = 0) : ∀ j k r, j ≠ 3000 + q → τ'.2.2.1 j ≠ 0 → fr' j k = some r → r ≠ 3000 + q ∧ r ≠ 4000 + q ∧ r ≠ 5000 + q := by
  obtain ⟨-, w1, -, w3, -, w4⟩ := hw
  intro j k r hj h1 h2
  by_cases h4 : j = 4000 + q
  · subst h4; rw [(w4 k).1] at h2; cases h2
  by_cases h5 : j = 5000 + q
  · subst h5; rw [(w4 k).2] at h2; cases h2
  rw [w3 j k (by omega)] at h2
  rw [(w1 j (by omega)).2.1] at h1
  have := hc j k r h1 h2
  exact ⟨fun e => this (by rw [e]; exact hd.1), fun e => this (by rw [e]; exact hd.2.1), fun e => this (by rw [e]; exact hd.2.2)⟩
theorem zNr.no {τ τ' : zTy} {fr fr' : zFr} {q : Nat} (h : zNr τ fr τ' fr') (hn : ∀ j k r, j ≠ 3000 + q → τ.2.2.1 j ≠ 0 → fr j k = some r → r ≠ 3000 + q ∧ r ≠ 4000 + q ∧ r ≠ 5000 + q) : ∀ j k r, j ≠ 3000 + q → τ'.2.2.1 j ≠ 0 → fr' j k = some r → r ≠ 3000 + q ∧ r ≠ 4000 + q ∧ r ≠ 5000 + q := fun j k r hj h1 h2 => by
  rcases h j k r h1 h2 with h3 | ⟨h3, h4⟩
  · omega
  · exact hn j k r hj h3 h4
/-- behind a letter that is gone: nothing but the tape is another -/
def zLg (τ : zTy) (fi : zFi) (fr : zFr) (q : Nat) (τ' : zTy) (fi' : zFi) (fr' : zFr) : Prop := zFix τ' fr' ∧ fi' 1 1 = nI 0 ∧ (∀ i, τ'.2.2.1 i = τ.2.2.1 i) ∧
  (∀ i, ¬ (i = 3000 + q ∨ i = 4000 + q ∨ i = 5000 + q) → τ'.1 i = τ.1 i ∧ τ'.2.2.2 i = τ.2.2.2 i) ∧ (∀ i k, ¬ (i = 3000 + q ∨ i = 4000 + q ∨ i = 5000 + q ∨ i = 1 ∨ (i = 0 ∧ k = 14)) → fi' i k = fi i k) ∧ ∀ i k, ¬ (i = 3000 + q ∨ i = 4000 + q ∨ i = 5000 + q) → fr' i k = fr i k
theorem zLg.of {τ τ' : zTy} {fi f fi' : zFi} {fr fr' : zFr} {q : Nat} (hw : zLw τ fi fr q τ' f fr') (hd : τ.2.2.1 (3000 + q) = 0 ∧ τ.2.2.1 (4000 + q) = 0 ∧ τ.2.2.1 (5000 + q) = 0) (h1 : fi' 1 1 = nI 0) (hf : ∀ a b, ¬ (a = 3000 + q ∨ a = 4000 + q ∨ a = 5000 + q ∨ a = 1 ∨ (a = 0 ∧ b = 14)) → fi' a b = f a b) : zLg τ fi fr q (zDr τ' q) fi' fr' := by
  obtain ⟨⟨-, w0⟩, w1, w2, w3, -, -⟩ := hw
  refine ⟨w0.dr, h1, fun i => ?_, fun i h => ⟨(w1 i h).1, (w1 i h).2.2⟩, fun i k h => by rw [hf i k h]; exact w2 i k (by omega), w3⟩
  by_cases h : i = 3000 + q ∨ i = 4000 + q ∨ i = 5000 + q
  · rw [zDr.y h]
    rcases h with h | h | h <;> rw [h]
    · exact hd.1.symm
    · exact hd.2.1.symm
    · exact hd.2.2.symm
  · rw [zDr.n h]; exact (w1 i h).2.1
/-- behind a letter that was an order -/
def zLo (τ : zTy) (fi : zFi) (fr : zFr) (n o q : Nat) (τ' : zTy) (fi' : zFi) (fr' : zFr) : Prop := zOr τ' fi' fr' n (o + 1) ∧ zFix τ' fr' ∧ fi' 1 1 = nI 0 ∧ (∀ i, ¬ (i = 500 + o ∨ i = 600 + o ∨ (1000 + 8 * o ≤ i ∧ i < 1008 + 8 * o)) → τ'.2.2.1 i = τ.2.2.1 i) ∧
  (∀ i, ¬ (i = 3000 + q ∨ i = 4000 + q ∨ i = 5000 + q ∨ i = 500 + o ∨ i = 600 + o ∨ (1000 + 8 * o ≤ i ∧ i < 1008 + 8 * o)) → τ'.1 i = τ.1 i ∧ τ'.2.2.2 i = τ.2.2.2 i) ∧ (∀ i k, ¬ (i = 3000 + q ∨ i = 4000 + q ∨ i = 5000 + q ∨ i = 1 ∨ (i = 0 ∧ (k = 11 ∨ k = 13 ∨ k = 14)) ∨ i = 500 + o ∨ i = 600 + o ∨ (1000 + 8 * o ≤ i ∧ i < 1008 + 8 * o)) → fi' i k = fi i k) ∧ (∀ i k, ¬ (i = 3000 + q ∨ i = 4000 + q ∨ i = 5000 + q ∨ i = 500 + o ∨ i = 600 + o ∨ (1000 + 8 * o ≤ i ∧ i < 1008 + 8 * o) ∨ (i = 16 ∧ k = o)) → fr' i k = fr i k) ∧ ∀ i, 1000 + 8 * o ≤ i → i < 1008 + 8 * o → τ'.2.2.1 i = 0 ∨ τ'.2.2.1 i = 26
theorem zLo.of {τ τ1 τ' : zTy} {fi f f1 fi' : zFi} {fr fr1 fr' : zFr} {n o q : Nat} (ho : o < 60) (hw : zLw τ fi fr q τ1 f fr1) (hd : τ.2.2.1 (3000 + q) = 0 ∧ τ.2.2.1 (4000 + q) = 0 ∧ τ.2.2.1 (5000 + q) = 0) (h1 : f1 1 1 = nI 0) (hf : ∀ a b, ¬ (a = 3000 + q ∨ a = 4000 + q ∨ a = 5000 + q ∨ a = 1 ∨ (a = 0 ∧ (b = 13 ∨ b = 14))) → f1 a b = f a b) (hN : zNO τ1 f1 fr1 n o τ' fi' fr') : zLo τ fi fr n o q (zDr τ' q) fi' fr' := by
  obtain ⟨-, w1, w2, w3, -, -⟩ := hw
  obtain ⟨n0, n1, n2, n3, n4, -, n5⟩ := hN
  refine ⟨n0.cg (Nat.le_refl _) (fun _ _ _ => rfl) (fun _ _ _ => rfl) (fun i a b => ⟨zDr.n (by omega), rfl⟩), n1.dr, by rw [n3 1 1 (by omega)]; exact h1, fun i h => ?_, fun i h => ⟨by show τ'.1 i = _; rw [(n2 i (by omega)).1]; exact (w1 i (by omega)).1, by show τ'.2.2.2 i = _; rw [(n2 i (by omega)).2.2]; exact (w1 i (by omega)).2.2⟩, fun i k h => by rw [n3 i k (by omega), hf i k (by omega)]; exact w2 i k (by omega), fun i k h => by rw [n4 i k (by omega)]; exact w3 i k (by omega), fun i q1 q2 => by rw [zDr.n (by omega)]; exact n5 i q1 q2⟩
  by_cases h2 : i = 3000 + q ∨ i = 4000 + q ∨ i = 5000 + q
  · rw [zDr.y h2]
    rcases h2 with h2 | h2 | h2 <;> rw [h2]
    · exact hd.1.symm
    · exact hd.2.1.symm
    · exact hd.2.2.symm
  · rw [zDr.n h2, (n2 i h).2.1]; exact (w1 i h2).2.1
/-- behind a letter that is a doubt -/
def zLd (τ : zTy) (fi : zFi) (fr : zFr) (q : Nat) (τ' : zTy) (fi' : zFi) (fr' : zFr) : Prop := zDo τ' fi' fr' (q + 1) ∧ zFix τ' fr' ∧ fi' 1 1 = nI 0 ∧
  (∀ i, ¬ (i = 3000 + q ∨ i = 4000 + q ∨ i = 5000 + q) → τ'.1 i = τ.1 i ∧ τ'.2.2.1 i = τ.2.2.1 i ∧ τ'.2.2.2 i = τ.2.2.2 i) ∧ (∀ i k, ¬ (i = 3000 + q ∨ i = 4000 + q ∨ i = 5000 + q ∨ i = 1 ∨ (i = 0 ∧ (k = 10 ∨ k = 14))) → fi' i k = fi i k) ∧ ∀ i k, ¬ (i = 3000 + q ∨ i = 4000 + q ∨ i = 5000 + q ∨ (i = 15 ∧ k = q)) → fr' i k = fr i k
theorem zLd.of {τ τ' : zTy} {fi f f1 fi' : zFi} {fr fr1 fr' : zFr} {q l : Nat} (hDo : zDo τ fi fr q) (hq : q < 512) (hw : zLw τ fi fr q τ' f fr1) (h1 : f1 1 1 = nI 0) (hl : f1 (3000 + q) 2 = nI l) (hl8 : l ≤ 8) (hf : ∀ a b, ¬ (a = 3000 + q ∨ a = 4000 + q ∨ a = 5000 + q ∨ a = 1 ∨ (a = 0 ∧ b = 14)) → f1 a b = f a b) (eg : fr' = zur fr1 15 q (some (3000 + q))) (ef : fi' = zu (zu f1 (3000 + q) 9 (nI 1)) 0 10 (nI (q + 1))) (hF : zFix τ' fr') : zLd τ fi fr q τ' fi' fr' := by
  obtain ⟨⟨⟨⟨k1, k2, k3⟩, ⟨k4, k5⟩, k6, k7⟩, -⟩, w1, w2, w3, -, -⟩ := hw
  have F : ∀ i k, ¬ (i = 3000 + q ∨ i = 4000 + q ∨ i = 5000 + q ∨ i = 1 ∨ (i = 0 ∧ (k = 10 ∨ k = 14))) → fi' i k = fi i k := fun i k h => by rw [ef, zu_n (by omega), zu_n (by omega), hf i k (by omega)]; exact w2 i k (by omega)
  have G : ∀ i k, ¬ (i = 3000 + q ∨ i = 4000 + q ∨ i = 5000 + q ∨ (i = 15 ∧ k = q)) → fr' i k = fr i k := fun i k h => by rw [eg, zur_n (by omega)]; exact w3 i k (by omega)
  refine ⟨⟨by omega, by rw [ef]; exact zu_s, fun k hk => ?_, fun k a b => ?_⟩, hF, by rw [ef, zu_n (by omega), zu_n (by omega)]; exact h1, w1, F, G⟩
  · by_cases hkq : k = q
    · subst hkq
      exact ⟨⟨k1, k2, k3, k4, k5⟩, ⟨by rw [eg]; exact zur_s, by rw [eg, zur_n (by omega)]; exact k6, by rw [eg, zur_n (by omega)]; exact k7⟩, ⟨l, hl8, by rw [ef, zu_n (by omega), zu_n (by omega)]; exact hl⟩, Or.inr (by rw [ef, zu_n (by omega), zu_s]; decide)⟩
    · obtain ⟨⟨a1, a2, a3, a4, a5⟩, ⟨b1, b2, b3⟩, ⟨l2, c1, c2⟩, c3⟩ := hDo.2.2.1 k (by omega)
      exact ⟨⟨by rw [(w1 _ (by omega)).2.1]; exact a1, by rw [(w1 _ (by omega)).2.1]; exact a2, by rw [(w1 _ (by omega)).2.1]; exact a3, by rw [(w1 _ (by omega)).2.2]; exact a4, by rw [(w1 _ (by omega)).2.2]; exact a5⟩, ⟨by rw [G _ _ (by omega)]; exact b1, by rw [G _ _ (by omega)]; exact b2, by rw [G _ _ (by omega)]; exact b3⟩, ⟨l2, c1, by rw [F _ _ (by omega)]; exact c2⟩, by rw [F _ _ (by omega)]; exact c3⟩
  · obtain ⟨a1, a2, a3⟩ := hDo.2.2.2 k (by omega) b
    exact ⟨by rw [(w1 _ (by omega)).2.1]; exact a1, by rw [(w1 _ (by omega)).2.1]; exact a2, by rw [(w1 _ (by omega)).2.1]; exact a3⟩
set_option maxHeartbeats 4000000 in
set_option maxRecDepth 100000 in
/-- waitingDoubts -/
theorem c_waitingA (l : Launch) (hl0 : l.stackTraces = false) (D : va_G) (A : Nat → Prop) (sad : Nat → Nat) (τ : zTy) (fi : zFi) (fr : zFr) (ol : Int64) (hF : zFix τ fr) (d : Nat) (hDo : zDa τ fi fr d) : Met l yX11_waitingDoubts wsX11_waitingDoubts ({ frames := 0, cells := 0, slots := 0, locals := 0 }) (va_Pc [.ref (τ.1 0)] (zQc D A sad τ fi fr ol)) (va_Qi (fun (r : Int32) (u : Unit) => True) (fun (u : Unit) (t : State) => zH D A τ fi fr ol t t.heap) A) 0 0 A := by
  refine Met.ofW (cc := cX11_waitingDoubts) (maxL := 3) (ret := (some .int)) (by decide) rfl ?_
  intro p9 e9 s m args below meth c9 s₁ B hml hv
  obtain ⟨rfl, hz, hH, hA⟩ := hv
  have hx := B.exec
  have hb := B.bytes
  have hr := B.returns
  have hts := atoms_spec (ws := wsX11_waitingDoubts) B.pre
  have hown : s.vm.findClass RX11 = some m.cls := findClass_of_methodNamed B.named
  have hlocks := B.notSynchronized
  have hS : va_S A s.heap s.heap [] := va_S.rf
  have hl := lv_entry ([.ref (τ.1 0)]) (n := 3) (Nat.le_of_ble_eq_true rfl)
  rw [lg_entry_eq]
  generalize (lg_sl ([.ref (τ.1 0)]) ++ List.replicate (3 - (lg_sl ([.ref (τ.1 0)])).length) Slot.unset).toArray = ls at hl ⊢
  have hl : lv_has ls 3 [(0, .ref (τ.1 0))] := hl
  have hd512 := hDo.1
  have hiX11 : ∀ w ∈ u_ws RX11 TX11 16, w ∈ wsX11_waitingDoubts := fun _ h => List.mem_cons_of_mem _ (List.mem_append_left _ (List.mem_append_right _ h))
  have hw1 := hts (.fieldLink RX11 215 "PostHouse" "doubtCount" "I") (by decide +kernel)
  have hw2 := hts (.fieldLink RX11 42 "PostHouse" "doubts" "[LPostHouse$Letter;") (by decide +kernel)
  have hiX2 : ∀ w ∈ u_ws RX2 TX2 10, w ∈ wsX11_waitingDoubts := fun _ h => List.mem_cons_of_mem _ (List.mem_append_right _ h)
  have hw4 := hts (.fieldLink RX11 220 "PostHouse$Letter" "waits" "Z") (by decide +kernel)
  refine lv_iconst (v := nI 0) hx hb dX11_waitingDoubts_0 (by decide) ?_
  refine lv_istore_n (lv' := [(1, .int (nI 0)), (0, .ref (τ.1 0))]) hx hb dX11_waitingDoubts_1 rfl hl (by decide) rfl (fun ls hl => ?_)
  refine lv_iconst (v := nI 0) hx hb dX11_waitingDoubts_2 (by decide) ?_
  refine lv_istore_n (lv' := [(2, .int (nI 0)), (1, .int (nI 0)), (0, .ref (τ.1 0))]) hx hb dX11_waitingDoubts_3 rfl hl (by decide) rfl (fun ls hl => ?_)
  refine zLp (σ := Nat × Int32) (fun x9 k9 H locs ls => (fun (i : Nat) (yy : Int32) => k9 = d - i ∧ (i ≤ d) ∧ zH D A τ fi fr ol s H ∧ va_S A s.heap H locs ∧ lv_has ls 3 [(0, .ref (τ.1 0)), (1, .int yy), (2, .int (nI i))]) x9.1 x9.2) (0, nI 0) (d - 0) (show d - 0 = d - 0 ∧ (0 ≤ d) ∧ zH D A τ fi fr ol s _ ∧ va_S A s.heap _ _ ∧ lv_has _ 3 [(0, .ref (τ.1 0)), (1, .int (nI 0)), (2, .int (nI 0))] from ⟨rfl, Nat.zero_le _, hH, hS, lv_sub hl [2, 1, 0] rfl⟩) (fun k9 ih x9 H locs ls hv9 => ?_)
  obtain ⟨i, yy⟩ := x9
  have hv9 : k9 = d - i ∧ (i ≤ d) ∧ zH D A τ fi fr ol s H ∧ va_S A s.heap H locs ∧ lv_has ls 3 [(0, .ref (τ.1 0)), (1, .int yy), (2, .int (nI i))] := hv9
  obtain ⟨hkih101, hv9, hH, hS, hl⟩ := hv9
  obtain h1 := hv9
  have ih101 := ih
  clear ih
  refine lv_iload_n hx hb dX11_waitingDoubts_4 rfl (lv_at hl 2 rfl) ?_
  refine lv_aload_n hx hb dX11_waitingDoubts_5 rfl (lv_at hl 0 rfl) ?_
  refine zGetI (D := D) (ci := 11) (C := RX11) (T := TX11) (N := 16) hx hb hts hiX11 hown hH (zk_0 hF) rfl 10 (by decide) rfl hw1 (fun _ h9 => h9) dX11_waitingDoubts_6 hDo.2.1 ?_
  refine lv_icmp_ge (tgt := 33) hx hb dX11_waitingDoubts_9 (by decide) (fun c102 => ?_) (fun c102 => ?_)
  · have zc102 := c102
    replace zc102 := zc_le (nI_toInt (by omega)) (nI_toInt (by omega)) zc102
    refine lv_iload_n hx hb dX11_waitingDoubts_33 rfl (lv_at hl 1 rfl) ?_
    refine W.widen (k := 0) (n := 0) (by decide) (by decide) ?_
    exact W.iret (v := yy) hx hb hr (fun t9 ht9 hW9 => ⟨⟨yy, (), rfl, trivial, zEnd1 hH ht9 hW9⟩, hS.F ht9⟩) hS.2.2 dX11_waitingDoubts_34
  · have zc102 := c102
    replace zc102 := zc_nle (nI_toInt (by omega)) (nI_toInt (by omega)) zc102
    refine lv_aload_n hx hb dX11_waitingDoubts_12 rfl (lv_at hl 0 rfl) ?_
    refine zGetR (D := D) (ci := 11) (C := RX11) (T := TX11) (N := 16) hx hb hts hiX11 hown hH (zk_0 hF) rfl 5 (by decide) rfl hw2 (fun _ h9 => h9) dX11_waitingDoubts_13 (zr_0_5 hF) ?_
    refine lv_iload_n hx hb dX11_waitingDoubts_16 rfl (lv_at hl 2 rfl) ?_
    refine zAaldS (D := D) hx hb hH (zk_15 hF) (by decide) (by decide) rfl (zn_15 hF) (by omega) (by omega) (hDo.2.2.1 i (by omega)).2.1.1 dX11_waitingDoubts_17 ?_
    refine zGetI (D := D) (ci := 2) (C := RX2) (T := TX2) (N := 10) hx hb hts hiX2 hown hH (hDo.2.2.1 i (by omega)).1.1 rfl 9 (by decide) rfl hw4 (fun _ h9 => h9) dX11_waitingDoubts_18 rfl ?_
    refine lv_if_eq (tgt := 27) hx hb dX11_waitingDoubts_21 (by decide) (fun c103 => ?_) (fun c103 => ?_)
    · have zc103 := c103
      replace zc103 := zc_eq (rfl) ((by decide : (0 : Int32).toInt = 0)) zc103
      refine lv_iinc (v := nI (i + 1)) (lv' := [(2, .int (nI (i + 1))), (0, .ref (τ.1 0)), (1, .int yy)]) hx hb dX11_waitingDoubts_27 hl (k := 2) rfl (by rw [show (Int32.ofInt 1 : Int32) = nI 1 from by decide, nI_add]) (by decide) rfl (fun ls hl => ?_)
      refine lv_goto (tgt := 4) hx hb dX11_waitingDoubts_30 (by decide) ?_
      exact ih101 (d - (i + 1)) (by omega) (i + 1, _) _ _ _ (show d - (i + 1) = d - (i + 1) ∧ ((i + 1) ≤ d) ∧ zH D A τ fi fr ol s _ ∧ va_S A s.heap _ _ ∧ lv_has _ 3 [(0, .ref (τ.1 0)), (1, .int _), (2, .int (nI (i + 1)))] from ⟨rfl, (by omega), hH, hS, lv_sub hl [1, 2, 0] rfl⟩)
    · have zc103 := c103
      replace zc103 := zc_neq (rfl) ((by decide : (0 : Int32).toInt = 0)) zc103
      obtain ⟨v104, ev104⟩ : ∃ y : Int32, y = yy + 1 := ⟨_, rfl⟩
      refine lv_iinc (v := v104) (lv' := [(1, .int v104), (0, .ref (τ.1 0)), (2, .int (nI i))]) hx hb dX11_waitingDoubts_24 hl (k := 1) rfl (by rw [ev104]; rfl) (by decide) rfl (fun ls hl => ?_)
      refine lv_iinc (v := nI (i + 1)) (lv' := [(2, .int (nI (i + 1))), (1, .int v104), (0, .ref (τ.1 0))]) hx hb dX11_waitingDoubts_27 hl (k := 2) rfl (by rw [show (Int32.ofInt 1 : Int32) = nI 1 from by decide, nI_add]) (by decide) rfl (fun ls hl => ?_)
      refine lv_goto (tgt := 4) hx hb dX11_waitingDoubts_30 (by decide) ?_
      exact ih101 (d - (i + 1)) (by omega) (i + 1, _) _ _ _ (show d - (i + 1) = d - (i + 1) ∧ ((i + 1) ≤ d) ∧ zH D A τ fi fr ol s _ ∧ va_S A s.heap _ _ ∧ lv_has _ 3 [(0, .ref (τ.1 0)), (1, .int _), (2, .int (nI (i + 1)))] from ⟨rfl, (by omega), hH, hS, lv_sub hl [2, 1, 0] rfl⟩)
set_option maxHeartbeats 4000000 in
set_option maxRecDepth 100000 in
/-- letter -/
theorem c_letter (l : Launch) (hl0 : l.stackTraces = false) (D : va_G) (A : Nat → Prop) (sad : Nat → Nat) (τ : zTy) (fi : zFi) (fr : zFr) (ol : Int64) (L : Nat) (hF : zFix τ fr) (hn : fi 1 1 = nI L) (hn4 : L ≤ 400) (n : Nat) (hT : zTh τ fi fr n) (o : Nat) (hO : zOr τ fi fr n o) (q : Nat) (hDo : zDo τ fi fr q) : vx_Met l yX11_letter wsX11_letter ({ frames := 7, cells := 14, slots := 126, locals := 153 }) (va_Pc [.ref (τ.1 0)] (zQc D A sad τ fi fr ol)) (va_Qi (fun (r : Int32) (u : zTy × zFi × zFr) => (o < 60 ∧ r = nI o ∧ zLo τ fi fr n o q u.1 u.2.1 u.2.2) ∨ (q < 512 ∧ zLd τ fi fr q u.1 u.2.1 u.2.2)) (fun (u : zTy × zFi × zFr) (t : State) => zH D A u.1 u.2.1 u.2.2 ol t t.heap) A) (vx_X (fun u : zTy × zFi × zFr => True) (fun (E : String) (u : zTy × zFi × zFr) (t : State) => ((E = "java/lang/IllegalArgumentException" ∨ E = "java/lang/UnsupportedOperationException") ∧ zLg τ fi fr q u.1 u.2.1 u.2.2) ∧ zH D A u.1 u.2.1 u.2.2 ol t t.heap) A) 14 126 A := by
  refine vx_ofW (cc := cX11_letter) (maxL := 3) (ret := (some .int)) (by decide) rfl ?_
  intro p9 e9 s m args below meth c9 s₁ B hml ht0 hv
  obtain ⟨rfl, hz, hH, hA⟩ := hv
  have hx := B.exec
  have hb := B.bytes
  have hr := B.returns
  have hts := atoms_spec (ws := wsX11_letter) B.pre
  have hown : s.vm.findClass RX11 = some m.cls := findClass_of_methodNamed B.named
  have hlocks := B.notSynchronized
  have hS : va_S A s.heap s.heap [] := va_S.rf
  have hl := lv_entry ([.ref (τ.1 0)]) (n := 3) (Nat.le_of_ble_eq_true rfl)
  rw [lg_entry_eq]
  generalize (lg_sl ([.ref (τ.1 0)]) ++ List.replicate (3 - (lg_sl ([.ref (τ.1 0)])).length) Slot.unset).toArray = ls at hl ⊢
  have hl : lv_has ls 3 [(0, .ref (τ.1 0))] := hl
  have hn30 := hT.1
  have hq5 := hDo.1
  have hdd := hDo.2.2.2 q (Nat.le_refl _) (by omega)
  have hcl0 := hH.2.2.2
  have hiX2 : ∀ w ∈ u_ws RX2 TX2 10, w ∈ wsX11_letter := fun _ h => List.mem_cons_of_mem _ (List.mem_append_left _ (List.mem_append_left _ (List.mem_append_left _ (List.mem_append_left _ (List.mem_append_left _ (List.mem_append_left _ (List.mem_append_left _ (List.mem_append_left _ (List.mem_append_left _ (List.mem_append_right _ h))))))))))
  have hw1 := hts (.classLink RX11 40 RX2) (by decide +kernel)
  have hw2 := hts (.instantiable RX2 10) (by decide +kernel)
  have hw3 := hts (.initialized RX2) (by decide +kernel)
  have hw4 := hts (.instanceMethod yX2_init) (by decide +kernel)
  have hiX11 : ∀ w ∈ u_ws RX11 TX11 16, w ∈ wsX11_letter := fun _ h => List.mem_cons_of_mem _ (List.mem_append_left _ (List.mem_append_left _ (List.mem_append_left _ (List.mem_append_left _ (List.mem_append_left _ (List.mem_append_left _ (List.mem_append_left _ (List.mem_append_left _ (List.mem_append_right _ h)))))))))
  have hw6 := hts (.fieldLink RX11 10 "PostHouse" "tape" "LPostHouse$Tape;") (by decide +kernel)
  have hw7 := hts (.fieldLink RX11 72 "PostHouse" "fault" "I") (by decide +kernel)
  have hw8 := hts (.classLink RX11 107 "java/lang/UnsupportedOperationException") (by decide +kernel)
  have hw9 := hts (.initialized "java/lang/UnsupportedOperationException") (by decide +kernel)
  have hw10 := hts (.fieldLink RX11 215 "PostHouse" "doubtCount" "I") (by decide +kernel)
  have hw11 := hts (.fieldLink RX11 220 "PostHouse$Letter" "waits" "Z") (by decide +kernel)
  have hw12 := hts (.fieldLink RX11 42 "PostHouse" "doubts" "[LPostHouse$Letter;") (by decide +kernel)
  have hw13 := hts (.fieldLink RX11 201 "PostHouse$Letter" "mendings" "I") (by decide +kernel)
  have hw14 := hts (.fieldLink RX11 204 "PostHouse" "mendedAtOnce" "I") (by decide +kernel)
  have hw15 := hts (.classLink RX11 91 "java/lang/IllegalArgumentException") (by decide +kernel)
  have hw16 := hts (.initialized "java/lang/IllegalArgumentException") (by decide +kernel)
  refine zNew (D := D) (fs := [.null, .null, .int 0, .int 0, .int 0, .int 0, .int 0, .int 0, .int 0, .int 0]) (ci := 2) (C := RX2) (T := TX2) (N := 10) hx hb hts hiX2 tyX2 tyX2_ok hown hw1 hw2 hw3 hH hS hA rfl (3000 + q) hdd.1 (fun _ => rfl) (by decide) (Nat.le_of_ble_eq_true rfl) (Nat.le_of_ble_eq_true rfl) dX11_letter_0 (fun q9 c9 H hH8 hS => ?_)
  obtain ⟨τ101, eτ101⟩ : ∃ t9 : zTy, t9 = (va_up τ.1 (3000 + q) q9, va_up τ.2.1 (3000 + q) c9, va_up τ.2.2.1 (3000 + q) 18, va_up τ.2.2.2 (3000 + q) 0) := ⟨_, rfl⟩
  obtain ⟨f102, ef102⟩ : ∃ f9 : zFi, f9 = va_up fi (3000 + q) (fun _ => 0) := ⟨_, rfl⟩
  obtain ⟨g103, eg103⟩ : ∃ f9 : zFr, f9 = va_up fr (3000 + q) (fun _ => none) := ⟨_, rfl⟩
  have hH : zH D A τ101 f102 g103 ol s H := by rw [eτ101, ef102, eg103]; exact hH8
  clear hH8
  have hqτ101 : τ101.1 (3000 + q) = q9 := by rw [eτ101]; exact va_up_self _ _ _
  have haτ101 : ∀ i, i ≠ 3000 + q → τ101.1 i = τ.1 i := fun i h => by rw [eτ101]; exact va_up_ne _ _ h
  have hkτ101 : τ101.2.2.1 (3000 + q) = 18 := by rw [eτ101]; exact va_up_self _ _ _
  have hnτ101 : τ101.2.2.2 (3000 + q) = 0 := by rw [eτ101]; exact va_up_self _ _ _
  have hbτ101 : ∀ i, i ≠ 3000 + q → τ101.2.2.1 i = τ.2.2.1 i ∧ τ101.2.2.2 i = τ.2.2.2 i := fun i h => by rw [eτ101]; exact ⟨va_up_ne _ _ h, va_up_ne _ _ h⟩
  have hFτ101 : zFix τ101 g103 := by rw [eτ101, eg103]; exact hF.up (by omega)
  clear eτ101
  subst hqτ101
  rw [show τ.1 0 = τ101.1 0 from (haτ101 0 (by omega)).symm] at hl
  have q104 : f102 1 1 = nI L := by rw [ef102, va_up_ne _ _ (by omega)]; exact hn
  refine W.widen (k := 1) (n := 10) (by decide) (by decide) ?_
  refine lv_dup hx hb dX11_letter_3 rfl ?_
  have hznn := hz.1.2.2.2.2.2.1 _ (List.mem_of_getElem? (i := 5) rfl)
  refine va_callv (va_runIN (host := RX11) (As := []) (rest := [.ref (τ101.1 (3000 + q))]) ⟨hx, hb, hml, hown, hts⟩ (c_Letter_init l hl0 D A sad τ101 f102 g103 ol hFτ101 q hkτ101 (⟨by rw [(hbτ101 (4000 + q) (by omega)).1]; exact hdd.2.1, by rw [(hbτ101 (5000 + q) (by omega)).1]; exact hdd.2.2⟩) hq5) ⟨va_cnB (host := RX11) (y := yX2_init) 0 hts gX11_letter_X2_init_n184 rfl rfl rfl hznn hw3 (by decide +kernel) ⟨Nat.le_of_ble_eq_true rfl, Nat.le_of_ble_eq_true rfl⟩, rfl, hw4⟩ ⟨zQc_bl, zQc_at hz hS hA hH⟩ rfl rfl hl.1 rfl (lv_room (Nat.le_of_ble_eq_true rfl)) dX11_letter_4 ⟨Nat.le_of_ble_eq_true rfl, Nat.le_of_ble_eq_true rfl⟩) hS (fun q _ h => h) (fun q h => h) (fun u9 t9 H1 locs ht9 hvm9 hw hB hz1 hk1 hS => ?_)
  obtain ⟨τ106, f107, g108⟩ := u9
  have hH := zMv ht9 hvm9 hB
  clear hB
  simp only at hw hH
  generalize H1 = H at hH hS ⊢
  refine W.widen (k := 3) (n := 26) (by decide) (by decide) ?_
  have hlw := zLw.of hq5 haτ101 hbτ101 ef102 eg103 hw
  have ha6 : ∀ i, ¬ (i = 4000 + q ∨ i = 5000 + q) → τ106.1 i = τ101.1 i := fun i h => (hw.1 i (by omega) (by omega)).1
  have hL := hlw.1.1
  have hF6 := hlw.1.2
  have hno := hlw.no hcl0 hdd
  have hT := zTh.cg (τ' := τ106) (fi' := f107) (fr' := g108) hT (fun i9 k9 h9 => hlw.2.2.1 i9 k9 (by omega)) (fun i9 k9 h9 => hlw.2.2.2.1 i9 k9 (by omega)) (fun i9 h8 h9 => (hlw.2.1 i9 (by omega)).2)
  have hO := zOr.cg (τ' := τ106) (fi' := f107) (fr' := g108) hO (Nat.le_refl _) (fun i9 k9 h9 => hlw.2.2.1 i9 k9 (by omega)) (fun i9 k9 h9 => hlw.2.2.2.1 i9 k9 (by omega)) (fun i9 h8 h9 => (hlw.2.1 i9 (by omega)).2)
  have hDa := zDa.of hDo hlw
  have p1 : f107 1 1 = nI L := by rw [hlw.2.2.1 _ _ (by omega)]; exact hn
  have p2 : f107 (3000 + q) 2 = nI 0 := by rw [hlw.2.2.2.2.1]; decide
  have p3 : f107 (3000 + q) 6 = nI 0 := by rw [hlw.2.2.2.2.1]; decide
  rw [show τ101.1 0 = τ106.1 0 from (ha6 0 (by omega)).symm] at hl
  refine W.eq (g2 := F0 m 7 ls [.ref (τ106.1 (3000 + q))]) (by rw [ha6 (3000 + q) (by omega)]) ?_
  refine lv_astore_n (lv' := [(1, .ref (τ106.1 (3000 + q))), (0, .ref (τ106.1 0))]) hx hb dX11_letter_7 rfl hl (by decide) rfl (fun ls hl => ?_)
  refine lv_aload_n hx hb dX11_letter_8 rfl (lv_at hl 1 rfl) ?_
  refine zGetR (D := D) (ci := 11) (C := RX11) (T := TX11) (N := 16) hx hb hts hiX11 hown hH (zk_0 hF6) rfl 0 (by decide) rfl hw6 (fun _ h9 => h9) dX11_letter_9 (zr_0_0 hF6) ?_
  refine va_callv (va_runV (As := []) (rest := []) ⟨hx, hb, hml, hown, hts⟩ (t_open l hl0 D A sad τ106 f107 g108 ol L hF6 p1 (by omega)) (cwV 0 hts gX11_letter_X7_open rfl rfl rfl (by decide +kernel) ⟨Nat.le_of_ble_eq_true rfl, Nat.le_of_ble_eq_true rfl⟩) ⟨zQc_bl, zRecv hH (zk_1 hF6) rfl, zQc_at hz hS hA hH⟩ rfl rfl hl.1 rfl (lv_room (Nat.le_of_ble_eq_true rfl)) dX11_letter_12 ⟨Nat.le_of_ble_eq_true rfl, Nat.le_of_ble_eq_true rfl⟩) hS (fun q _ h => h) (fun q h => h) (fun u9 t9 H1 locs ht9 hvm9 hw hB hz1 hk1 hS => ?_)
  have hH := zMv ht9 hvm9 hB
  clear hB
  generalize u9 = f110 at hw hH
  generalize H1 = H at hH hS ⊢
  obtain ⟨b7, e7, h7⟩ := hw
  obtain ⟨b111, hb112, q113, hf114⟩ := (⟨b7, h7.2.1, by rw [e7]; exact zu_s, fun i k q => by rw [e7, zu_n (by omega), zu_n (by omega)]⟩ : zTw f107 L f110)
  have q115 : f110 1 1 = nI L := by rw [hf114 1 1 (by omega)]; exact p1
  have q116 : f110 (3000 + q) 2 = nI 0 := by rw [hf114 (3000 + q) 2 (by omega)]; exact p2
  have q117 : f110 (3000 + q) 6 = nI 0 := by rw [hf114 (3000 + q) 6 (by omega)]; exact p3
  have hT := zTh.ci (fi' := f110) hT (fun i9 k9 h9 => hf114 i9 k9 (by omega))
  have hO := zOr.ci (fi' := f110) hO (fun i9 k9 h9 => hf114 i9 k9 (by omega))
  have hDa := zDa.ci (fi' := f110) hDa (fun i9 k9 h9 => hf114 i9 k9 (by omega))
  refine lv_aload_n hx hb dX11_letter_15 rfl (lv_at hl 1 rfl) ?_
  refine lv_aload_n hx hb dX11_letter_16 rfl (lv_at hl 0 rfl) ?_
  refine va_callv (va_runV (As := [.ref (τ106.1 (3000 + q))]) (rest := []) ⟨hx, hb, hml, hown, hts⟩ (w_readLetter l hl0 D A sad τ106 f110 g108 ol L b111 hF6 q115 q113 (by omega) (by omega) q hq5 hL 0 (by omega) q116) (cwV 1 hts gX11_letter_X11_readLetter rfl rfl rfl (by decide +kernel) ⟨Nat.le_of_ble_eq_true rfl, Nat.le_of_ble_eq_true rfl⟩) ⟨zQc_bl, zRecv hH (zk_0 hF6) rfl, zQc_at hz hS hA hH⟩ rfl rfl hl.1 rfl (lv_room (Nat.le_of_ble_eq_true rfl)) dX11_letter_17 ⟨Nat.le_of_ble_eq_true rfl, Nat.le_of_ble_eq_true rfl⟩) hS (fun q _ h => h) (fun q h => h) (fun u9 t9 H1 locs ht9 hvm9 hw hB hz1 hk1 hS => ?_)
  have hH := zMv ht9 hvm9 hB
  clear hB
  generalize u9 = f119 at hw hH
  generalize H1 = H at hH hS ⊢
  obtain ⟨⟨b8, hb8, qb8⟩, ⟨l8, hl8, ql8⟩, hf8⟩ := hw
  have q120 : f119 1 1 = nI L := by rw [hf8 1 1 (by omega)]; exact q115
  have q121 : f119 (3000 + q) 6 = nI 0 := by rw [hf8 (3000 + q) 6 (by omega)]; exact q117
  have hT := zTh.ci (fi' := f119) hT (fun i9 k9 h9 => hf8 i9 k9 (by omega))
  have hO := zOr.ci (fi' := f119) hO (fun i9 k9 h9 => hf8 i9 k9 (by omega))
  have hDa := zDa.ci (fi' := f119) hDa (fun i9 k9 h9 => hf8 i9 k9 (by omega))
  refine lv_aload_n hx hb dX11_letter_20 rfl (lv_at hl 1 rfl) ?_
  refine va_callv (va_runV (As := []) (rest := []) ⟨hx, hb, hml, hown, hts⟩ (c_closeTape l hl0 D A sad τ106 f119 g108 ol L b8 hF6 q120 qb8 (by omega) (by omega)) (cwV 0 hts gX11_letter_X11_closeTape rfl rfl rfl (by decide +kernel) ⟨Nat.le_of_ble_eq_true rfl, Nat.le_of_ble_eq_true rfl⟩) ⟨zQc_bl, zRecv hH (zk_0 hF6) rfl, zQc_at hz hS hA hH⟩ rfl rfl hl.1 rfl (lv_room (Nat.le_of_ble_eq_true rfl)) dX11_letter_21 ⟨Nat.le_of_ble_eq_true rfl, Nat.le_of_ble_eq_true rfl⟩) hS (fun q _ h => h) (fun q h => h) (fun u9 t9 H1 locs ht9 hvm9 hw hB hz1 hk1 hS => ?_)
  have hH := zMv ht9 hvm9 hB
  clear hB
  generalize u9 = f123 at hw hH
  generalize H1 = H at hH hS ⊢
  obtain ⟨w124, -, q125, q126, hf127⟩ := hw
  have q128 : f123 (3000 + q) 6 = nI 0 := by rw [hf127 (3000 + q) 6 (by omega)]; exact q121
  have q129 : f123 1 2 = nI b8 := by rw [hf127 1 2 (by omega)]; exact qb8
  have q130 : f123 (3000 + q) 2 = nI l8 := by rw [hf127 (3000 + q) 2 (by omega)]; exact ql8
  have hT := zTh.ci (fi' := f123) hT (fun i9 k9 h9 => hf127 i9 k9 (by omega))
  have hO := zOr.ci (fi' := f123) hO (fun i9 k9 h9 => hf127 i9 k9 (by omega))
  have hDa := zDa.ci (fi' := f123) hDa (fun i9 k9 h9 => hf127 i9 k9 (by omega))
  refine lv_aload_n hx hb dX11_letter_24 rfl (lv_at hl 1 rfl) ?_
  refine zGetI (D := D) (ci := 11) (C := RX11) (T := TX11) (N := 16) hx hb hts hiX11 hown hH (zk_0 hF6) rfl 14 (by decide) rfl hw7 (fun _ h9 => h9) dX11_letter_25 q125 ?_
  refine lv_iconst (v := (-1)) hx hb dX11_letter_28 (by decide) ?_
  refine lv_icmp_eq (tgt := 42) hx hb dX11_letter_29 (by decide) (fun c131 => ?_) (fun c131 => ?_)
  · have zc131 := c131
    replace zc131 := zc_eq (rfl) ((by decide : ((-1) : Int32).toInt = (-1))) zc131
    refine lv_aload_n hx hb dX11_letter_42 rfl (lv_at hl 1 rfl) ?_
    refine lv_aload_n hx hb dX11_letter_43 rfl (lv_at hl 0 rfl) ?_
    refine va_calli (va_runV (As := [.ref (τ106.1 (3000 + q))]) (rest := []) ⟨hx, hb, hml, hown, hts⟩ (c_mend l hl0 D A sad τ106 f123 g108 ol hF6 n hT q hq5 hL l8 (by omega) q130 0 (by omega) q128) (cwV 1 hts gX11_letter_X11_mend rfl rfl rfl (by decide +kernel) ⟨Nat.le_of_ble_eq_true rfl, Nat.le_of_ble_eq_true rfl⟩) ⟨zQc_bl, zRecv hH (zk_0 hF6) rfl, zQc_at hz hS hA hH⟩ rfl rfl hl.1 rfl (lv_room (Nat.le_of_ble_eq_true rfl)) dX11_letter_44 ⟨Nat.le_of_ble_eq_true rfl, Nat.le_of_ble_eq_true rfl⟩) hS (fun q _ h => h) (fun q h => h) (fun r132 u9 t9 H1 locs ht9 hvm9 hw hB hz1 hk1 hS => ?_)
    have hH := zMv ht9 hvm9 hB
    clear hB
    generalize u9 = f133 at hw hH
    generalize H1 = H at hH hS ⊢
    have hf134 := hw
    clear hw
    have q135 : f133 1 2 = nI b8 := by rw [hf134 1 2 (by omega)]; exact q129
    have q136 : f133 (3000 + q) 2 = nI l8 := by rw [hf134 (3000 + q) 2 (by omega)]; exact q130
    have q137 : f133 0 14 = w124 := by rw [hf134 0 14 (by omega)]; exact q125
    have q138 : f133 1 1 = nI 0 := by rw [hf134 1 1 (by omega)]; exact q126
    have hT := zTh.ci (fi' := f133) hT (fun i9 k9 h9 => hf134 i9 k9 (by omega))
    have hO := zOr.ci (fi' := f133) hO (fun i9 k9 h9 => hf134 i9 k9 (by omega))
    have hDa := zDa.ci (fi' := f133) hDa (fun i9 k9 h9 => hf134 i9 k9 (by omega))
    refine lv_istore_n (lv' := [(2, .int r132), (1, .ref (τ106.1 (3000 + q))), (0, .ref (τ106.1 0))]) hx hb dX11_letter_47 rfl hl (by decide) rfl (fun ls hl => ?_)
    refine lv_iload_n hx hb dX11_letter_48 rfl (lv_at hl 0 rfl) ?_
    refine lv_if_eq (tgt := 88) hx hb dX11_letter_49 (by decide) (fun c139 => ?_) (fun c139 => ?_)
    · have zc139 := c139
      replace zc139 := zc_eq (rfl) ((by decide : (0 : Int32).toInt = 0)) zc139
      refine lv_aload_n hx hb dX11_letter_88 rfl (lv_at hl 2 rfl) ?_
      refine va_calli (va_runV (As := []) (rest := []) ⟨hx, hb, hml, hown, hts⟩ (c_waitingA l hl0 D A sad τ106 f133 g108 ol hF6 q hDa) (cwV 0 hts gX11_letter_X11_waitingDoubts rfl rfl rfl (by decide +kernel) ⟨Nat.le_of_ble_eq_true rfl, Nat.le_of_ble_eq_true rfl⟩) ⟨zQc_bl, zRecv hH (zk_0 hF6) rfl, zQc_at hz hS hA hH⟩ rfl rfl hl.1 rfl (lv_room (Nat.le_of_ble_eq_true rfl)) dX11_letter_89 ⟨Nat.le_of_ble_eq_true rfl, Nat.le_of_ble_eq_true rfl⟩) hS (fun q _ h => h) (fun q h => h) (fun r140 u9 t9 H1 locs ht9 hvm9 hw hB hz1 hk1 hS => ?_)
      have hH := zMv ht9 hvm9 hB
      generalize H1 = H at hH hS ⊢
      refine lv_bipush (v := nI 20) hx hb dX11_letter_92 (by decide) ?_
      refine lv_icmp_ge (tgt := 107) hx hb dX11_letter_94 (by decide) (fun c141 => ?_) (fun c141 => ?_)
      · have zc141 := c141
        replace zc141 := zc_le (nI_toInt (by omega)) (rfl) zc141
        obtain ⟨a142, ha142⟩ := hz.1.2.2.2.2.1 _ (List.mem_of_getElem? (i := 10) rfl)
        have hat : ∀ w ∈ vx_atS RX11 111 "java/lang/UnsupportedOperationException" ["java/lang/RuntimeException", "java/lang/Exception"], w.before _ s = true := vx_hat (fun w h => hts w (List.mem_cons_of_mem _ (List.mem_append_right _ h))) (B := [.castable "java/lang/UnsupportedOperationException" "java/lang/UnsupportedOperationException", .declares (Bundle.initS "java/lang/RuntimeException"), .declares (Bundle.initS "java/lang/Exception"), .declares (Bundle.initS Bundle.tN)]) (by decide +kernel) (vx_c (va_Nw.use rfl (hz.1.2.2.2.2.2.2.2.1 _ (List.mem_of_getElem? (i := 2) rfl))) (vx_c (va_Nw.use rfl (hz.1.2.2.2.2.2.2.2.2 _ (List.mem_of_getElem? (i := 0) rfl))) (vx_c (va_Nw.use rfl (hz.1.2.2.2.2.2.2.2.2 _ (List.mem_of_getElem? (i := 1) rfl))) (vx_c (va_Nw.use rfl (hz.1.2.2.2.2.2.2.2.2 _ (List.mem_of_getElem? (i := 2) rfl))) vx_n))))
        have hH := hH.dropL hno
        obtain ⟨τ143, eτ143⟩ : ∃ t9 : zTy, t9 = zDr τ106 q := ⟨_, rfl⟩
        rw [← eτ143] at hH
        exact vx_throwS hx hb hl0 (own := RX11) (cls := "java/lang/UnsupportedOperationException") (text := "too many doubts wait") (names := ["java/lang/RuntimeException", "java/lang/Exception"]) hown (by decide +kernel) (by decide +kernel) hw8 hw9 ha142 hat (by decide +kernel) hz.1.1 hz.1.2.1 hS (by rw [hml]; exact hl.1) dX11_letter_107 dX11_letter_110 dX11_letter_111 dX11_letter_113 dX11_letter_116 (fun x h9 => (ht0 x h9).elim) (Nat.le_of_ble_eq_true rfl) (Nat.le_of_ble_eq_true rfl) (Nat.le_of_ble_eq_true rfl) (Nat.le_of_ble_eq_true rfl) hlocks (fun t9 hvm9 h91 h92 => ⟨(τ143, f133, g108), trivial, ⟨⟨Or.inr rfl, (show zLg τ fi fr q τ143 f133 g108 from by rw [eτ143]; exact zLg.of hlw hdd q138 (fun a b h => by rw [hf134 a b (by omega), hf127 a b (by omega), hf8 a b (by omega), hf114 a b (by omega)]))⟩, zThr hH hvm9 h92⟩, zF2 hS h91 h92⟩) hS.2.2 (by decide) (by decide)
      · have zc141 := c141
        replace zc141 := zc_nle (nI_toInt (by omega)) (rfl) zc141
        refine lv_aload_n hx hb dX11_letter_97 rfl (lv_at hl 2 rfl) ?_
        refine zGetI (D := D) (ci := 11) (C := RX11) (T := TX11) (N := 16) hx hb hts hiX11 hown hH (zk_0 hF6) rfl 10 (by decide) rfl hw10 (fun _ h9 => h9) dX11_letter_98 hDa.2.1 ?_
        refine lv_sipush (v := nI 512) hx hb dX11_letter_101 (by decide) ?_
        refine lv_icmp_lt (tgt := 117) hx hb dX11_letter_104 (by decide) (fun c144 => ?_) (fun c144 => ?_)
        · have zc144 := c144
          replace zc144 := zc_lt (nI_toInt (by omega)) (nI_toInt (by omega)) zc144
          refine lv_aload_n hx hb dX11_letter_117 rfl (lv_at hl 1 rfl) ?_
          refine lv_iconst (v := nI 1) hx hb dX11_letter_118 (by decide) ?_
          refine zPutI (D := D) (ci := 2) (ty := .boolean) (C := RX2) (T := TX2) (N := 10) hx hb hts hiX2 tyX2 tyX2_ok nmX2 hown hH hS hL.1.1 rfl 9 (by decide) rfl hw11 (fun _ h9 => h9) rfl (by decide +kernel) rfl rfl dX11_letter_119 (fun H locs hH hS => ?_)
          obtain ⟨f145, ef145⟩ : ∃ f9 : zFi, f9 = zu f133 (3000 + q) 9 (nI 1) := ⟨_, rfl⟩
          rw [← ef145] at hH
          have q146 : f145 1 2 = nI b8 := by rw [ef145, zu_n (fun h9 => by omega)]; exact q135
          have q147 : f145 (3000 + q) 2 = nI l8 := by rw [ef145, zu_n (fun h9 => absurd h9.2 (by decide))]; exact q136
          have q148 : f145 0 14 = w124 := by rw [ef145, zu_n (fun h9 => by omega)]; exact q137
          have q149 : f145 1 1 = nI 0 := by rw [ef145, zu_n (fun h9 => by omega)]; exact q138
          have q150 : f145 (3000 + q) 9 = nI 1 := by rw [ef145]; exact zu_s
          have hT := zTh.ci (fi' := f145) hT (fun i9 k9 h9 => by rw [ef145]; exact zu_n (by omega))
          have hO := zOr.ci (fi' := f145) hO (fun i9 k9 h9 => by rw [ef145]; exact zu_n (by omega))
          have hDa := zDa.ci (fi' := f145) hDa (fun i9 k9 h9 => by rw [ef145]; exact zu_n (by omega))
          refine lv_aload_n hx hb dX11_letter_122 rfl (lv_at hl 2 rfl) ?_
          refine zGetR (D := D) (ci := 11) (C := RX11) (T := TX11) (N := 16) hx hb hts hiX11 hown hH (zk_0 hF6) rfl 5 (by decide) rfl hw12 (fun _ h9 => h9) dX11_letter_123 (zr_0_5 hF6) ?_
          refine lv_aload_n hx hb dX11_letter_126 rfl (lv_at hl 2 rfl) ?_
          refine zGetI (D := D) (ci := 11) (C := RX11) (T := TX11) (N := 16) hx hb hts hiX11 hown hH (zk_0 hF6) rfl 10 (by decide) rfl hw10 (fun _ h9 => h9) dX11_letter_127 hDa.2.1 ?_
          refine lv_aload_n hx hb dX11_letter_130 rfl (lv_at hl 1 rfl) ?_
          refine zAastS (D := D) (rr := (RX2, TX2, 10)) hx hb hH hS (zk_15 hF6) (by decide) (by decide) rfl hL.1.1 rfl (zn_15 hF6) (by omega) (by omega) dX11_letter_131 (fun H locs hH hS => ?_)
          obtain ⟨g151, eg151⟩ : ∃ f9 : zFr, f9 = zur g108 15 q (some (3000 + q)) := ⟨_, rfl⟩
          rw [← eg151] at hH
          have hF152 : zFix τ106 g151 := by rw [eg151]; exact hF6.ur (by omega)
          refine lv_aload_n hx hb dX11_letter_132 rfl (lv_at hl 2 rfl) ?_
          refine lv_dup hx hb dX11_letter_133 rfl ?_
          refine zGetI (D := D) (ci := 11) (C := RX11) (T := TX11) (N := 16) hx hb hts hiX11 hown hH (zk_0 hF152) rfl 10 (by decide) rfl hw10 (fun _ h9 => h9) dX11_letter_134 hDa.2.1 ?_
          refine lv_iconst (v := nI 1) hx hb dX11_letter_137 (by decide) ?_
          refine lv_iadd hx hb dX11_letter_138 ?_
          refine lv_topi (fun v153 ev153 => ?_)
          obtain rfl : v153 = nI (q + 1) := ev153.trans (nI_add _ _)
          refine zPutI (D := D) (ci := 11) (ty := .int) (C := RX11) (T := TX11) (N := 16) hx hb hts hiX11 tyX11 tyX11_ok nmX11 hown hH hS (zk_0 hF152) rfl 10 (by decide) rfl hw10 (fun _ h9 => h9) rfl (by decide +kernel) rfl rfl dX11_letter_139 (fun H locs hH hS => ?_)
          obtain ⟨f154, ef154⟩ : ∃ f9 : zFi, f9 = zu f145 0 10 (nI (q + 1)) := ⟨_, rfl⟩
          rw [← ef154] at hH
          have q155 : f154 1 2 = nI b8 := by rw [ef154, zu_n (fun h9 => absurd h9.1 (by decide))]; exact q146
          have q156 : f154 (3000 + q) 2 = nI l8 := by rw [ef154, zu_n (fun h9 => by omega)]; exact q147
          have q157 : f154 0 14 = w124 := by rw [ef154, zu_n (fun h9 => absurd h9.2 (by decide))]; exact q148
          have q158 : f154 1 1 = nI 0 := by rw [ef154, zu_n (fun h9 => absurd h9.1 (by decide))]; exact q149
          have q159 : f154 (3000 + q) 9 = nI 1 := by rw [ef154, zu_n (fun h9 => by omega)]; exact q150
          have q160 : f154 0 10 = nI (q + 1) := by rw [ef154]; exact zu_s
          refine lv_iconst (v := (-1)) hx hb dX11_letter_142 (by decide) ?_
          refine lv_aload_n hx hb dX11_letter_143 rfl (lv_at hl 2 rfl) ?_
          refine zGetI (D := D) (ci := 11) (C := RX11) (T := TX11) (N := 16) hx hb hts hiX11 hown hH (zk_0 hF152) rfl 10 (by decide) rfl hw10 (fun _ h9 => h9) dX11_letter_144 q160 ?_
          refine lv_isub hx hb dX11_letter_147 ?_
          refine lv_topi (fun v161 ev161 => ?_)
          refine W.widen (k := 14) (n := 126) (by decide) (by decide) ?_
          refine vx_ret ?_
          exact W.iret (v := v161) hx hb hr (fun t9 ht9 hW9 => ⟨⟨v161, (τ106, f154, g151), rfl, (show (o < 60 ∧ v161 = nI o ∧ zLo τ fi fr n o q τ106 f154 g151) ∨ (q < 512 ∧ zLd τ fi fr q τ106 f154 g151) from Or.inr ⟨by omega, zLd.of hDo (by omega) hlw q138 q136 (by omega) (fun a b h => by rw [hf134 a b (by omega), hf127 a b (by omega), hf8 a b (by omega), hf114 a b (by omega)]) eg151 (by rw [ef154, ef145]) hF152⟩), zEnd1 hH ht9 hW9⟩, hS.F ht9⟩) hS.2.2 dX11_letter_148
        · have zc144 := c144
          replace zc144 := zc_nlt (nI_toInt (by omega)) (nI_toInt (by omega)) zc144
          obtain ⟨a162, ha162⟩ := hz.1.2.2.2.2.1 _ (List.mem_of_getElem? (i := 10) rfl)
          have hat : ∀ w ∈ vx_atS RX11 111 "java/lang/UnsupportedOperationException" ["java/lang/RuntimeException", "java/lang/Exception"], w.before _ s = true := vx_hat (fun w h => hts w (List.mem_cons_of_mem _ (List.mem_append_right _ h))) (B := [.castable "java/lang/UnsupportedOperationException" "java/lang/UnsupportedOperationException", .declares (Bundle.initS "java/lang/RuntimeException"), .declares (Bundle.initS "java/lang/Exception"), .declares (Bundle.initS Bundle.tN)]) (by decide +kernel) (vx_c (va_Nw.use rfl (hz.1.2.2.2.2.2.2.2.1 _ (List.mem_of_getElem? (i := 2) rfl))) (vx_c (va_Nw.use rfl (hz.1.2.2.2.2.2.2.2.2 _ (List.mem_of_getElem? (i := 0) rfl))) (vx_c (va_Nw.use rfl (hz.1.2.2.2.2.2.2.2.2 _ (List.mem_of_getElem? (i := 1) rfl))) (vx_c (va_Nw.use rfl (hz.1.2.2.2.2.2.2.2.2 _ (List.mem_of_getElem? (i := 2) rfl))) vx_n))))
          have hH := hH.dropL hno
          obtain ⟨τ163, eτ163⟩ : ∃ t9 : zTy, t9 = zDr τ106 q := ⟨_, rfl⟩
          rw [← eτ163] at hH
          exact vx_throwS hx hb hl0 (own := RX11) (cls := "java/lang/UnsupportedOperationException") (text := "too many doubts wait") (names := ["java/lang/RuntimeException", "java/lang/Exception"]) hown (by decide +kernel) (by decide +kernel) hw8 hw9 ha162 hat (by decide +kernel) hz.1.1 hz.1.2.1 hS (by rw [hml]; exact hl.1) dX11_letter_107 dX11_letter_110 dX11_letter_111 dX11_letter_113 dX11_letter_116 (fun x h9 => (ht0 x h9).elim) (Nat.le_of_ble_eq_true rfl) (Nat.le_of_ble_eq_true rfl) (Nat.le_of_ble_eq_true rfl) (Nat.le_of_ble_eq_true rfl) hlocks (fun t9 hvm9 h91 h92 => ⟨(τ163, f133, g108), trivial, ⟨⟨Or.inr rfl, (show zLg τ fi fr q τ163 f133 g108 from by rw [eτ163]; exact zLg.of hlw hdd q138 (fun a b h => by rw [hf134 a b (by omega), hf127 a b (by omega), hf8 a b (by omega), hf114 a b (by omega)]))⟩, zThr hH hvm9 h92⟩, zF2 hS h91 h92⟩) hS.2.2 (by decide) (by decide)
    · have zc139 := c139
      replace zc139 := zc_neq (rfl) ((by decide : (0 : Int32).toInt = 0)) zc139
      refine lv_aload_n hx hb dX11_letter_52 rfl (lv_at hl 2 rfl) ?_
      refine lv_aload_n hx hb dX11_letter_53 rfl (lv_at hl 1 rfl) ?_
      refine va_calli (va_runV (As := [.ref (τ106.1 (3000 + q))]) (rest := []) ⟨hx, hb, hml, hown, hts⟩ (c_isPaid l hl0 D A sad τ106 f133 g108 ol hF6 n hT q hq5 hL l8 (by omega) q136) (cwV 1 hts gX11_letter_X11_isPaid rfl rfl rfl (by decide +kernel) ⟨Nat.le_of_ble_eq_true rfl, Nat.le_of_ble_eq_true rfl⟩) ⟨zQc_bl, zRecv hH (zk_0 hF6) rfl, zQc_at hz hS hA hH⟩ rfl rfl hl.1 rfl (lv_room (Nat.le_of_ble_eq_true rfl)) dX11_letter_54 ⟨Nat.le_of_ble_eq_true rfl, Nat.le_of_ble_eq_true rfl⟩) hS (fun q _ h => h) (fun q h => h) (fun r164 u9 t9 H1 locs ht9 hvm9 hw hB hz1 hk1 hS => ?_)
      have hH := zMv ht9 hvm9 hB
      generalize H1 = H at hH hS ⊢
      refine lv_if_eq (tgt := 88) hx hb dX11_letter_57 (by decide) (fun c165 => ?_) (fun c165 => ?_)
      · have zc165 := c165
        replace zc165 := zc_eq (rfl) ((by decide : (0 : Int32).toInt = 0)) zc165
        refine lv_aload_n hx hb dX11_letter_88 rfl (lv_at hl 2 rfl) ?_
        refine va_calli (va_runV (As := []) (rest := []) ⟨hx, hb, hml, hown, hts⟩ (c_waitingA l hl0 D A sad τ106 f133 g108 ol hF6 q hDa) (cwV 0 hts gX11_letter_X11_waitingDoubts rfl rfl rfl (by decide +kernel) ⟨Nat.le_of_ble_eq_true rfl, Nat.le_of_ble_eq_true rfl⟩) ⟨zQc_bl, zRecv hH (zk_0 hF6) rfl, zQc_at hz hS hA hH⟩ rfl rfl hl.1 rfl (lv_room (Nat.le_of_ble_eq_true rfl)) dX11_letter_89 ⟨Nat.le_of_ble_eq_true rfl, Nat.le_of_ble_eq_true rfl⟩) hS (fun q _ h => h) (fun q h => h) (fun r166 u9 t9 H1 locs ht9 hvm9 hw hB hz1 hk1 hS => ?_)
        have hH := zMv ht9 hvm9 hB
        generalize H1 = H at hH hS ⊢
        refine lv_bipush (v := nI 20) hx hb dX11_letter_92 (by decide) ?_
        refine lv_icmp_ge (tgt := 107) hx hb dX11_letter_94 (by decide) (fun c167 => ?_) (fun c167 => ?_)
        · have zc167 := c167
          replace zc167 := zc_le (nI_toInt (by omega)) (rfl) zc167
          obtain ⟨a168, ha168⟩ := hz.1.2.2.2.2.1 _ (List.mem_of_getElem? (i := 10) rfl)
          have hat : ∀ w ∈ vx_atS RX11 111 "java/lang/UnsupportedOperationException" ["java/lang/RuntimeException", "java/lang/Exception"], w.before _ s = true := vx_hat (fun w h => hts w (List.mem_cons_of_mem _ (List.mem_append_right _ h))) (B := [.castable "java/lang/UnsupportedOperationException" "java/lang/UnsupportedOperationException", .declares (Bundle.initS "java/lang/RuntimeException"), .declares (Bundle.initS "java/lang/Exception"), .declares (Bundle.initS Bundle.tN)]) (by decide +kernel) (vx_c (va_Nw.use rfl (hz.1.2.2.2.2.2.2.2.1 _ (List.mem_of_getElem? (i := 2) rfl))) (vx_c (va_Nw.use rfl (hz.1.2.2.2.2.2.2.2.2 _ (List.mem_of_getElem? (i := 0) rfl))) (vx_c (va_Nw.use rfl (hz.1.2.2.2.2.2.2.2.2 _ (List.mem_of_getElem? (i := 1) rfl))) (vx_c (va_Nw.use rfl (hz.1.2.2.2.2.2.2.2.2 _ (List.mem_of_getElem? (i := 2) rfl))) vx_n))))
          have hH := hH.dropL hno
          obtain ⟨τ169, eτ169⟩ : ∃ t9 : zTy, t9 = zDr τ106 q := ⟨_, rfl⟩
          rw [← eτ169] at hH
          exact vx_throwS hx hb hl0 (own := RX11) (cls := "java/lang/UnsupportedOperationException") (text := "too many doubts wait") (names := ["java/lang/RuntimeException", "java/lang/Exception"]) hown (by decide +kernel) (by decide +kernel) hw8 hw9 ha168 hat (by decide +kernel) hz.1.1 hz.1.2.1 hS (by rw [hml]; exact hl.1) dX11_letter_107 dX11_letter_110 dX11_letter_111 dX11_letter_113 dX11_letter_116 (fun x h9 => (ht0 x h9).elim) (Nat.le_of_ble_eq_true rfl) (Nat.le_of_ble_eq_true rfl) (Nat.le_of_ble_eq_true rfl) (Nat.le_of_ble_eq_true rfl) hlocks (fun t9 hvm9 h91 h92 => ⟨(τ169, f133, g108), trivial, ⟨⟨Or.inr rfl, (show zLg τ fi fr q τ169 f133 g108 from by rw [eτ169]; exact zLg.of hlw hdd q138 (fun a b h => by rw [hf134 a b (by omega), hf127 a b (by omega), hf8 a b (by omega), hf114 a b (by omega)]))⟩, zThr hH hvm9 h92⟩, zF2 hS h91 h92⟩) hS.2.2 (by decide) (by decide)
        · have zc167 := c167
          replace zc167 := zc_nle (nI_toInt (by omega)) (rfl) zc167
          refine lv_aload_n hx hb dX11_letter_97 rfl (lv_at hl 2 rfl) ?_
          refine zGetI (D := D) (ci := 11) (C := RX11) (T := TX11) (N := 16) hx hb hts hiX11 hown hH (zk_0 hF6) rfl 10 (by decide) rfl hw10 (fun _ h9 => h9) dX11_letter_98 hDa.2.1 ?_
          refine lv_sipush (v := nI 512) hx hb dX11_letter_101 (by decide) ?_
          refine lv_icmp_lt (tgt := 117) hx hb dX11_letter_104 (by decide) (fun c170 => ?_) (fun c170 => ?_)
          · have zc170 := c170
            replace zc170 := zc_lt (nI_toInt (by omega)) (nI_toInt (by omega)) zc170
            refine lv_aload_n hx hb dX11_letter_117 rfl (lv_at hl 1 rfl) ?_
            refine lv_iconst (v := nI 1) hx hb dX11_letter_118 (by decide) ?_
            refine zPutI (D := D) (ci := 2) (ty := .boolean) (C := RX2) (T := TX2) (N := 10) hx hb hts hiX2 tyX2 tyX2_ok nmX2 hown hH hS hL.1.1 rfl 9 (by decide) rfl hw11 (fun _ h9 => h9) rfl (by decide +kernel) rfl rfl dX11_letter_119 (fun H locs hH hS => ?_)
            obtain ⟨f171, ef171⟩ : ∃ f9 : zFi, f9 = zu f133 (3000 + q) 9 (nI 1) := ⟨_, rfl⟩
            rw [← ef171] at hH
            have q172 : f171 1 2 = nI b8 := by rw [ef171, zu_n (fun h9 => by omega)]; exact q135
            have q173 : f171 (3000 + q) 2 = nI l8 := by rw [ef171, zu_n (fun h9 => absurd h9.2 (by decide))]; exact q136
            have q174 : f171 0 14 = w124 := by rw [ef171, zu_n (fun h9 => by omega)]; exact q137
            have q175 : f171 1 1 = nI 0 := by rw [ef171, zu_n (fun h9 => by omega)]; exact q138
            have q176 : f171 (3000 + q) 9 = nI 1 := by rw [ef171]; exact zu_s
            have hT := zTh.ci (fi' := f171) hT (fun i9 k9 h9 => by rw [ef171]; exact zu_n (by omega))
            have hO := zOr.ci (fi' := f171) hO (fun i9 k9 h9 => by rw [ef171]; exact zu_n (by omega))
            have hDa := zDa.ci (fi' := f171) hDa (fun i9 k9 h9 => by rw [ef171]; exact zu_n (by omega))
            refine lv_aload_n hx hb dX11_letter_122 rfl (lv_at hl 2 rfl) ?_
            refine zGetR (D := D) (ci := 11) (C := RX11) (T := TX11) (N := 16) hx hb hts hiX11 hown hH (zk_0 hF6) rfl 5 (by decide) rfl hw12 (fun _ h9 => h9) dX11_letter_123 (zr_0_5 hF6) ?_
            refine lv_aload_n hx hb dX11_letter_126 rfl (lv_at hl 2 rfl) ?_
            refine zGetI (D := D) (ci := 11) (C := RX11) (T := TX11) (N := 16) hx hb hts hiX11 hown hH (zk_0 hF6) rfl 10 (by decide) rfl hw10 (fun _ h9 => h9) dX11_letter_127 hDa.2.1 ?_
            refine lv_aload_n hx hb dX11_letter_130 rfl (lv_at hl 1 rfl) ?_
            refine zAastS (D := D) (rr := (RX2, TX2, 10)) hx hb hH hS (zk_15 hF6) (by decide) (by decide) rfl hL.1.1 rfl (zn_15 hF6) (by omega) (by omega) dX11_letter_131 (fun H locs hH hS => ?_)
            obtain ⟨g177, eg177⟩ : ∃ f9 : zFr, f9 = zur g108 15 q (some (3000 + q)) := ⟨_, rfl⟩
            rw [← eg177] at hH
            have hF178 : zFix τ106 g177 := by rw [eg177]; exact hF6.ur (by omega)
            refine lv_aload_n hx hb dX11_letter_132 rfl (lv_at hl 2 rfl) ?_
            refine lv_dup hx hb dX11_letter_133 rfl ?_
            refine zGetI (D := D) (ci := 11) (C := RX11) (T := TX11) (N := 16) hx hb hts hiX11 hown hH (zk_0 hF178) rfl 10 (by decide) rfl hw10 (fun _ h9 => h9) dX11_letter_134 hDa.2.1 ?_
            refine lv_iconst (v := nI 1) hx hb dX11_letter_137 (by decide) ?_
            refine lv_iadd hx hb dX11_letter_138 ?_
            refine lv_topi (fun v179 ev179 => ?_)
            obtain rfl : v179 = nI (q + 1) := ev179.trans (nI_add _ _)
            refine zPutI (D := D) (ci := 11) (ty := .int) (C := RX11) (T := TX11) (N := 16) hx hb hts hiX11 tyX11 tyX11_ok nmX11 hown hH hS (zk_0 hF178) rfl 10 (by decide) rfl hw10 (fun _ h9 => h9) rfl (by decide +kernel) rfl rfl dX11_letter_139 (fun H locs hH hS => ?_)
            obtain ⟨f180, ef180⟩ : ∃ f9 : zFi, f9 = zu f171 0 10 (nI (q + 1)) := ⟨_, rfl⟩
            rw [← ef180] at hH
            have q181 : f180 1 2 = nI b8 := by rw [ef180, zu_n (fun h9 => absurd h9.1 (by decide))]; exact q172
            have q182 : f180 (3000 + q) 2 = nI l8 := by rw [ef180, zu_n (fun h9 => by omega)]; exact q173
            have q183 : f180 0 14 = w124 := by rw [ef180, zu_n (fun h9 => absurd h9.2 (by decide))]; exact q174
            have q184 : f180 1 1 = nI 0 := by rw [ef180, zu_n (fun h9 => absurd h9.1 (by decide))]; exact q175
            have q185 : f180 (3000 + q) 9 = nI 1 := by rw [ef180, zu_n (fun h9 => by omega)]; exact q176
            have q186 : f180 0 10 = nI (q + 1) := by rw [ef180]; exact zu_s
            refine lv_iconst (v := (-1)) hx hb dX11_letter_142 (by decide) ?_
            refine lv_aload_n hx hb dX11_letter_143 rfl (lv_at hl 2 rfl) ?_
            refine zGetI (D := D) (ci := 11) (C := RX11) (T := TX11) (N := 16) hx hb hts hiX11 hown hH (zk_0 hF178) rfl 10 (by decide) rfl hw10 (fun _ h9 => h9) dX11_letter_144 q186 ?_
            refine lv_isub hx hb dX11_letter_147 ?_
            refine lv_topi (fun v187 ev187 => ?_)
            refine W.widen (k := 14) (n := 126) (by decide) (by decide) ?_
            refine vx_ret ?_
            exact W.iret (v := v187) hx hb hr (fun t9 ht9 hW9 => ⟨⟨v187, (τ106, f180, g177), rfl, (show (o < 60 ∧ v187 = nI o ∧ zLo τ fi fr n o q τ106 f180 g177) ∨ (q < 512 ∧ zLd τ fi fr q τ106 f180 g177) from Or.inr ⟨by omega, zLd.of hDo (by omega) hlw q138 q136 (by omega) (fun a b h => by rw [hf134 a b (by omega), hf127 a b (by omega), hf8 a b (by omega), hf114 a b (by omega)]) eg177 (by rw [ef180, ef171]) hF178⟩), zEnd1 hH ht9 hW9⟩, hS.F ht9⟩) hS.2.2 dX11_letter_148
          · have zc170 := c170
            replace zc170 := zc_nlt (nI_toInt (by omega)) (nI_toInt (by omega)) zc170
            obtain ⟨a188, ha188⟩ := hz.1.2.2.2.2.1 _ (List.mem_of_getElem? (i := 10) rfl)
            have hat : ∀ w ∈ vx_atS RX11 111 "java/lang/UnsupportedOperationException" ["java/lang/RuntimeException", "java/lang/Exception"], w.before _ s = true := vx_hat (fun w h => hts w (List.mem_cons_of_mem _ (List.mem_append_right _ h))) (B := [.castable "java/lang/UnsupportedOperationException" "java/lang/UnsupportedOperationException", .declares (Bundle.initS "java/lang/RuntimeException"), .declares (Bundle.initS "java/lang/Exception"), .declares (Bundle.initS Bundle.tN)]) (by decide +kernel) (vx_c (va_Nw.use rfl (hz.1.2.2.2.2.2.2.2.1 _ (List.mem_of_getElem? (i := 2) rfl))) (vx_c (va_Nw.use rfl (hz.1.2.2.2.2.2.2.2.2 _ (List.mem_of_getElem? (i := 0) rfl))) (vx_c (va_Nw.use rfl (hz.1.2.2.2.2.2.2.2.2 _ (List.mem_of_getElem? (i := 1) rfl))) (vx_c (va_Nw.use rfl (hz.1.2.2.2.2.2.2.2.2 _ (List.mem_of_getElem? (i := 2) rfl))) vx_n))))
            have hH := hH.dropL hno
            obtain ⟨τ189, eτ189⟩ : ∃ t9 : zTy, t9 = zDr τ106 q := ⟨_, rfl⟩
            rw [← eτ189] at hH
            exact vx_throwS hx hb hl0 (own := RX11) (cls := "java/lang/UnsupportedOperationException") (text := "too many doubts wait") (names := ["java/lang/RuntimeException", "java/lang/Exception"]) hown (by decide +kernel) (by decide +kernel) hw8 hw9 ha188 hat (by decide +kernel) hz.1.1 hz.1.2.1 hS (by rw [hml]; exact hl.1) dX11_letter_107 dX11_letter_110 dX11_letter_111 dX11_letter_113 dX11_letter_116 (fun x h9 => (ht0 x h9).elim) (Nat.le_of_ble_eq_true rfl) (Nat.le_of_ble_eq_true rfl) (Nat.le_of_ble_eq_true rfl) (Nat.le_of_ble_eq_true rfl) hlocks (fun t9 hvm9 h91 h92 => ⟨(τ189, f133, g108), trivial, ⟨⟨Or.inr rfl, (show zLg τ fi fr q τ189 f133 g108 from by rw [eτ189]; exact zLg.of hlw hdd q138 (fun a b h => by rw [hf134 a b (by omega), hf127 a b (by omega), hf8 a b (by omega), hf114 a b (by omega)]))⟩, zThr hH hvm9 h92⟩, zF2 hS h91 h92⟩) hS.2.2 (by decide) (by decide)
      · have zc165 := c165
        replace zc165 := zc_neq (rfl) ((by decide : (0 : Int32).toInt = 0)) zc165
        refine lv_aload_n hx hb dX11_letter_60 rfl (lv_at hl 2 rfl) ?_
        refine vx_callv (vx_runV (As := []) (rest := []) ⟨hx, hb, hml, hown, hts⟩ (c_needRoom l hl0 D A sad τ106 f133 g108 ol o hF6 hO.2.1 hO.1) (cwV 0 hts gX11_letter_X11_needRoomForOrder rfl rfl rfl (by decide +kernel) ⟨Nat.le_of_ble_eq_true rfl, Nat.le_of_ble_eq_true rfl⟩) ⟨zQc_bl, zRecv hH (zk_0 hF6) rfl, zQc_at hz hS hA hH⟩ rfl rfl hl.1 rfl (lv_room (Nat.le_of_ble_eq_true rfl)) dX11_letter_61 ⟨Nat.le_of_ble_eq_true rfl, Nat.le_of_ble_eq_true rfl⟩) hS (fun q _ h => h) (fun q h => h) (fun q _ h => h) (fun E ce q9 u9 t9 H1 locs ht9 hvm9 hw hB hz1 hk1 hS hce hcv hcl => ?_) (fun u9 t9 H1 locs ht9 hvm9 hw hB hz1 hk1 hS => ?_)
        · obtain ⟨hX, hB⟩ := hB
          have hH := zMv ht9 hvm9 hB
          generalize H1 = H at hH hS hce ⊢
          have hH := hH.dropL hno
          obtain ⟨τ191, eτ191⟩ : ∃ t9 : zTy, t9 = zDr τ106 q := ⟨_, rfl⟩
          rw [← eτ191] at hH
          exact vx_out (fun x h9 => (ht0 x h9).elim) hlocks hce hcv hcl (fun t9 ht9 hvm9 => ⟨(τ191, f133, g108), trivial, ⟨⟨Or.inr hX.1, (show zLg τ fi fr q τ191 f133 g108 from by rw [eτ191]; exact zLg.of hlw hdd q138 (fun a b h => by rw [hf134 a b (by omega), hf127 a b (by omega), hf8 a b (by omega), hf114 a b (by omega)]))⟩, zOut hH ht9 hvm9⟩, hS.F ht9⟩) hS.2.2 (by decide) (by decide)
        · skip
          have hH := zMv ht9 hvm9 hB
          generalize H1 = H at hH hS ⊢
          refine W.widen (k := 4) (n := 32) (by decide) (by decide) ?_
          have ho := hw
          refine lv_aload_n hx hb dX11_letter_64 rfl (lv_at hl 1 rfl) ?_
          refine zGetI (D := D) (ci := 2) (C := RX2) (T := TX2) (N := 10) hx hb hts hiX2 hown hH hL.1.1 rfl 5 (by decide) rfl hw13 (fun _ h9 => h9) dX11_letter_65 rfl ?_
          refine lv_iconst (v := nI 1) hx hb dX11_letter_68 (by decide) ?_
          refine lv_icmp_ne (tgt := 82) hx hb dX11_letter_69 (by decide) (fun c192 => ?_) (fun c192 => ?_)
          · have zc192 := c192
            replace zc192 := zc_neq (rfl) (nI_toInt (by omega)) zc192
            refine lv_aload_n hx hb dX11_letter_82 rfl (lv_at hl 2 rfl) ?_
            refine lv_aload_n hx hb dX11_letter_83 rfl (lv_at hl 1 rfl) ?_
            refine va_calli (va_runV (As := [.ref (τ106.1 (3000 + q))]) (rest := []) ⟨hx, hb, hml, hown, hts⟩ (c_makeOrder l hl0 D A sad τ106 f133 g108 ol hF6 n hT q hq5 hL l8 (by omega) q136 o hO ho) (cwV 1 hts gX11_letter_X11_makeOrder rfl rfl rfl (by decide +kernel) ⟨Nat.le_of_ble_eq_true rfl, Nat.le_of_ble_eq_true rfl⟩) ⟨zQc_bl, zRecv hH (zk_0 hF6) rfl, zQc_at hz hS hA hH⟩ rfl rfl hl.1 rfl (lv_room (Nat.le_of_ble_eq_true rfl)) dX11_letter_84 ⟨Nat.le_of_ble_eq_true rfl, Nat.le_of_ble_eq_true rfl⟩) hS (fun q _ h => h) (fun q h => h) (fun r193 u9 t9 H1 locs ht9 hvm9 hw hB hz1 hk1 hS => ?_)
            obtain ⟨τ194, f195, g196⟩ := u9
            have hH := zMv ht9 hvm9 hB
            clear hB
            simp only at hw hH
            generalize H1 = H at hH hS ⊢
            refine W.widen (k := 14) (n := 126) (by decide) (by decide) ?_
            have hmo197 := hw
            clear hw
            have hno2 := zNr.no hmo197.2.2.2.2.2.2.1 hno
            have hH := hH.dropL hno2
            obtain ⟨τ198, eτ198⟩ : ∃ t9 : zTy, t9 = zDr τ194 q := ⟨_, rfl⟩
            rw [← eτ198] at hH
            refine W.widen (k := 14) (n := 126) (by decide) (by decide) ?_
            refine vx_ret ?_
            exact W.iret (v := r193) hx hb hr (fun t9 ht9 hW9 => ⟨⟨r193, (τ198, f195, g196), rfl, (show (o < 60 ∧ r193 = nI o ∧ zLo τ fi fr n o q τ198 f195 g196) ∨ (q < 512 ∧ zLd τ fi fr q τ198 f195 g196) from Or.inl ⟨ho, hmo197.1, by rw [eτ198]; exact zLo.of ho hlw hdd q138 (fun a b h => by rw [hf134 a b (by omega), hf127 a b (by omega), hf8 a b (by omega), hf114 a b (by omega)]) hmo197.2⟩), zEnd1 hH ht9 hW9⟩, hS.F ht9⟩) hS.2.2 dX11_letter_87
          · have zc192 := c192
            replace zc192 := zc_eq (rfl) (nI_toInt (by omega)) zc192
            refine lv_aload_n hx hb dX11_letter_72 rfl (lv_at hl 2 rfl) ?_
            refine lv_dup hx hb dX11_letter_73 rfl ?_
            refine zGetI (D := D) (ci := 11) (C := RX11) (T := TX11) (N := 16) hx hb hts hiX11 hown hH (zk_0 hF6) rfl 13 (by decide) rfl hw14 (fun _ h9 => h9) dX11_letter_74 rfl ?_
            refine lv_iconst (v := nI 1) hx hb dX11_letter_77 (by decide) ?_
            refine lv_iadd hx hb dX11_letter_78 ?_
            refine lv_topi (fun v199 ev199 => ?_)
            refine zPutI (D := D) (ci := 11) (ty := .int) (C := RX11) (T := TX11) (N := 16) hx hb hts hiX11 tyX11 tyX11_ok nmX11 hown hH hS (zk_0 hF6) rfl 13 (by decide) rfl hw14 (fun _ h9 => h9) rfl (by decide +kernel) rfl rfl dX11_letter_79 (fun H locs hH hS => ?_)
            obtain ⟨f200, ef200⟩ : ∃ f9 : zFi, f9 = zu f133 0 13 v199 := ⟨_, rfl⟩
            rw [← ef200] at hH
            have q201 : f200 1 2 = nI b8 := by rw [ef200, zu_n (fun h9 => absurd h9.1 (by decide))]; exact q135
            have q202 : f200 (3000 + q) 2 = nI l8 := by rw [ef200, zu_n (fun h9 => by omega)]; exact q136
            have q203 : f200 0 14 = w124 := by rw [ef200, zu_n (fun h9 => absurd h9.2 (by decide))]; exact q137
            have q204 : f200 1 1 = nI 0 := by rw [ef200, zu_n (fun h9 => absurd h9.1 (by decide))]; exact q138
            have q205 : f200 0 13 = v199 := by rw [ef200]; exact zu_s
            have hT := zTh.ci (fi' := f200) hT (fun i9 k9 h9 => by rw [ef200]; exact zu_n (by omega))
            have hO := zOr.ci (fi' := f200) hO (fun i9 k9 h9 => by rw [ef200]; exact zu_n (by omega))
            have hDa := zDa.ci (fi' := f200) hDa (fun i9 k9 h9 => by rw [ef200]; exact zu_n (by omega))
            refine lv_aload_n hx hb dX11_letter_82 rfl (lv_at hl 2 rfl) ?_
            refine lv_aload_n hx hb dX11_letter_83 rfl (lv_at hl 1 rfl) ?_
            refine va_calli (va_runV (As := [.ref (τ106.1 (3000 + q))]) (rest := []) ⟨hx, hb, hml, hown, hts⟩ (c_makeOrder l hl0 D A sad τ106 f200 g108 ol hF6 n hT q hq5 hL l8 (by omega) q202 o hO ho) (cwV 1 hts gX11_letter_X11_makeOrder rfl rfl rfl (by decide +kernel) ⟨Nat.le_of_ble_eq_true rfl, Nat.le_of_ble_eq_true rfl⟩) ⟨zQc_bl, zRecv hH (zk_0 hF6) rfl, zQc_at hz hS hA hH⟩ rfl rfl hl.1 rfl (lv_room (Nat.le_of_ble_eq_true rfl)) dX11_letter_84 ⟨Nat.le_of_ble_eq_true rfl, Nat.le_of_ble_eq_true rfl⟩) hS (fun q _ h => h) (fun q h => h) (fun r206 u9 t9 H1 locs ht9 hvm9 hw hB hz1 hk1 hS => ?_)
            obtain ⟨τ207, f208, g209⟩ := u9
            have hH := zMv ht9 hvm9 hB
            clear hB
            simp only at hw hH
            generalize H1 = H at hH hS ⊢
            refine W.widen (k := 14) (n := 126) (by decide) (by decide) ?_
            have hmo210 := hw
            clear hw
            have hno2 := zNr.no hmo210.2.2.2.2.2.2.1 hno
            have hH := hH.dropL hno2
            obtain ⟨τ211, eτ211⟩ : ∃ t9 : zTy, t9 = zDr τ207 q := ⟨_, rfl⟩
            rw [← eτ211] at hH
            refine W.widen (k := 14) (n := 126) (by decide) (by decide) ?_
            refine vx_ret ?_
            exact W.iret (v := r206) hx hb hr (fun t9 ht9 hW9 => ⟨⟨r206, (τ211, f208, g209), rfl, (show (o < 60 ∧ r206 = nI o ∧ zLo τ fi fr n o q τ211 f208 g209) ∨ (q < 512 ∧ zLd τ fi fr q τ211 f208 g209) from Or.inl ⟨ho, hmo210.1, by rw [eτ211]; exact zLo.of ho hlw hdd q204 (fun a b h => by rw [ef200, zu_n (by omega), hf134 a b (by omega), hf127 a b (by omega), hf8 a b (by omega), hf114 a b (by omega)]) hmo210.2⟩), zEnd1 hH ht9 hW9⟩, hS.F ht9⟩) hS.2.2 dX11_letter_87
  · have zc131 := c131
    replace zc131 := zc_neq (rfl) ((by decide : ((-1) : Int32).toInt = (-1))) zc131
    obtain ⟨a212, ha212⟩ := hz.1.2.2.2.2.1 _ (List.mem_of_getElem? (i := 9) rfl)
    have hat : ∀ w ∈ vx_atS RX11 95 "java/lang/IllegalArgumentException" ["java/lang/RuntimeException", "java/lang/Exception"], w.before _ s = true := vx_hat (fun w h => hts w (List.mem_cons_of_mem _ (List.mem_append_left _ (List.mem_append_right _ h)))) (B := [.castable "java/lang/IllegalArgumentException" "java/lang/IllegalArgumentException", .declares (Bundle.initS "java/lang/RuntimeException"), .declares (Bundle.initS "java/lang/Exception"), .declares (Bundle.initS Bundle.tN)]) (by decide +kernel) (vx_c (va_Nw.use rfl (hz.1.2.2.2.2.2.2.2.1 _ (List.mem_of_getElem? (i := 1) rfl))) (vx_c (va_Nw.use rfl (hz.1.2.2.2.2.2.2.2.2 _ (List.mem_of_getElem? (i := 0) rfl))) (vx_c (va_Nw.use rfl (hz.1.2.2.2.2.2.2.2.2 _ (List.mem_of_getElem? (i := 1) rfl))) (vx_c (va_Nw.use rfl (hz.1.2.2.2.2.2.2.2.2 _ (List.mem_of_getElem? (i := 2) rfl))) vx_n))))
    have hH := hH.dropL hno
    obtain ⟨τ213, eτ213⟩ : ∃ t9 : zTy, t9 = zDr τ106 q := ⟨_, rfl⟩
    rw [← eτ213] at hH
    exact vx_throwS hx hb hl0 (own := RX11) (cls := "java/lang/IllegalArgumentException") (text := "the text of the letter is wrong") (names := ["java/lang/RuntimeException", "java/lang/Exception"]) hown (by decide +kernel) (by decide +kernel) hw15 hw16 ha212 hat (by decide +kernel) hz.1.1 hz.1.2.1 hS (by rw [hml]; exact hl.1) dX11_letter_32 dX11_letter_35 dX11_letter_36 dX11_letter_38 dX11_letter_41 (fun x h9 => (ht0 x h9).elim) (Nat.le_of_ble_eq_true rfl) (Nat.le_of_ble_eq_true rfl) (Nat.le_of_ble_eq_true rfl) (Nat.le_of_ble_eq_true rfl) hlocks (fun t9 hvm9 h91 h92 => ⟨(τ213, f123, g108), trivial, ⟨⟨Or.inl rfl, (show zLg τ fi fr q τ213 f123 g108 from by rw [eτ213]; exact zLg.of hlw hdd q126 (fun a b h => by rw [hf127 a b (by omega), hf8 a b (by omega), hf114 a b (by omega)]))⟩, zThr hH hvm9 h92⟩, zF2 hS h91 h92⟩) hS.2.2 (by decide) (by decide)
