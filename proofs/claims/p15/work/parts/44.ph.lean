/-- behind a reading: the tape's place has moved, no more -/
def zTw (fi : zFi) (L : Nat) (u : zFi) : Prop := ∃ b, b ≤ L ∧ u 1 2 = nI b ∧ ∀ i k, ¬ (i = 1 ∧ 2 ≤ k) → u i k = fi i k
theorem zTw.skip {fi u : zFi} {L a b : Nat} (e : u = zu fi 1 2 (nI b)) (h : zSkip (fi 2) a L b) : zTw fi L u := ⟨b, h.2.1, by rw [e]; exact zu_s, fun i k q => by rw [e, zu_n (by omega)]⟩
theorem zTw.ref {fi u : zFi} {L a : Nat} {x : Int32} (ha : fi 1 2 = nI a) (hl : a ≤ L) (h : zRef fi x u) : zTw fi L u := by
  rcases h with ⟨_, rfl⟩ | ⟨_, rfl⟩
  · exact ⟨a, hl, by rw [zu_n (by omega)]; exact ha, fun i k q => zu_n (by omega)⟩
  · exact ⟨a, hl, ha, fun _ _ _ => rfl⟩
theorem zTw.same {fi : zFi} {L a : Nat} (ha : fi 1 2 = nI a) (hl : a ≤ L) : zTw fi L fi := ⟨a, hl, ha, fun _ _ _ => rfl⟩
theorem zTw.num {fi u : zFi} {L a p q : Nat} {lo hi r : Int32} (ha : fi 1 2 = nI a) (hl : a ≤ L) (h : ∃ k, zRun (fi 2) 48 57 a L k ∧ (((p ≤ k ∧ k ≤ q ∧ lo.toInt ≤ (zDig (fi 2) a k).toInt ∧ (zDig (fi 2) a k).toInt ≤ hi.toInt) ∧ r = zDig (fi 2) a k ∧ ∃ b, u = zu fi 1 2 (nI b) ∧ zSkip (fi 2) (a + k) L b) ∨ (¬ (p ≤ k ∧ k ≤ q ∧ lo.toInt ≤ (zDig (fi 2) a k).toInt ∧ (zDig (fi 2) a k).toInt ≤ hi.toInt) ∧ r = -1 ∧ zRef fi (nI a) u))) : zTw fi L u := by
  obtain ⟨k, _, ⟨_, _, b, e, s⟩ | ⟨_, _, e⟩⟩ := h
  · exact zTw.skip e s
  · exact zTw.ref ha hl e
theorem zTw.need {fi u : zFi} {L a : Nat} {ws : List Int32} (ha : fi 1 2 = nI a) (hl : a ≤ L) (h : (zWordAt (fi 2) a L ws ∧ ∃ b, u = zu fi 1 2 (nI b) ∧ zSkip (fi 2) (a + ws.length) L b) ∨ (¬ zWordAt (fi 2) a L ws ∧ zRef fi (nI a) u)) : zTw fi L u := by
  rcases h with ⟨_, b, e, s⟩ | ⟨_, e⟩
  · exact zTw.skip e s
  · exact zTw.ref ha hl e
theorem zTw.takes {fi u : zFi} {L a : Nat} {ws : List Int32} {r : Int32} (ha : fi 1 2 = nI a) (hl : a ≤ L) (h : (r = 1 ∧ zWordAt (fi 2) a L ws ∧ ∃ b, u = zu fi 1 2 (nI b) ∧ zSkip (fi 2) (a + ws.length) L b) ∨ (r = 0 ∧ ¬ zWordAt (fi 2) a L ws ∧ u = fi)) : zTw fi L u := by
  rcases h with ⟨_, _, b, e, s⟩ | ⟨_, _, rfl⟩
  · exact zTw.skip e s
  · exact zTw.same ha hl
theorem zTw.sign {fi u : zFi} {L a : Nat} {x r : Int32} (ha : fi 1 2 = nI a) (hl : a ≤ L) (h : (r = 1 ∧ a < L ∧ fi 2 a = x ∧ ∃ b, u = zu fi 1 2 (nI b) ∧ zSkip (fi 2) (a + 1) L b) ∨ (r = 0 ∧ u = fi ∧ (a < L → ¬ fi 2 a = x))) : zTw fi L u := by
  rcases h with ⟨_, _, _, b, e, s⟩ | ⟨_, rfl, _⟩
  · exact zTw.skip e s
  · exact zTw.same ha hl
set_option maxHeartbeats 4000000 in
set_option maxRecDepth 100000 in
/-- readKind -/
theorem w_readKind (l : Launch) (hl0 : l.stackTraces = false) (D : va_G) (A : Nat → Prop) (sad : Nat → Nat) (τ : zTy) (fi : zFi) (fr : zFr) (ol : Int64) (L a : Nat) (hF : zFix τ fr) (hn : fi 1 1 = nI L) (ha : fi 1 2 = nI a) (hn4 : L ≤ 400) (han : a ≤ L) : Met l yX11_readKind wsX11_readKind ({ frames := 5, cells := 0, slots := 0, locals := 108 }) (va_Pc [.ref (τ.1 0)] (zQc D A sad τ fi fr ol)) (va_Qi (fun (r : Int32) (u : zFi) => ((∃ k, k < 4 ∧ r = nI k) ∨ r = -1) ∧ (∃ b, b ≤ L ∧ u 1 2 = nI b) ∧ ∀ i k, ¬ (i = 1 ∧ 2 ≤ k) → u i k = fi i k) (fun (u : zFi) (t : State) => zH D A τ u fr ol t t.heap) A) 0 0 A := by
  refine Met.ofW (cc := cX11_readKind) (maxL := 1) (ret := (some .int)) (by decide) rfl ?_
  intro p9 e9 s m args below meth c9 s₁ B hml hv
  obtain ⟨rfl, hz, hH, hA⟩ := hv
  have hx := B.exec
  have hb := B.bytes
  have hr := B.returns
  have hts := atoms_spec (ws := wsX11_readKind) B.pre
  have hown : s.vm.findClass RX11 = some m.cls := findClass_of_methodNamed B.named
  have hlocks := B.notSynchronized
  have hS : va_S A s.heap s.heap [] := va_S.rf
  have hl := lv_entry ([.ref (τ.1 0)]) (n := 1) (Nat.le_of_ble_eq_true rfl)
  rw [lg_entry_eq]
  generalize (lg_sl ([.ref (τ.1 0)]) ++ List.replicate (1 - (lg_sl ([.ref (τ.1 0)])).length) Slot.unset).toArray = ls at hl ⊢
  have hl : lv_has ls 1 [(0, .ref (τ.1 0))] := hl
  have hiX11 : ∀ w ∈ u_ws RX11 TX11 16, w ∈ wsX11_readKind := fun _ h => List.mem_cons_of_mem _ (List.mem_append_left _ (List.mem_append_right _ h))
  have hw1 := hts (.fieldLink RX11 10 "PostHouse" "tape" "LPostHouse$Tape;") (by decide +kernel)
  refine lv_aload_n hx hb dX11_readKind_0 rfl (lv_at hl 0 rfl) ?_
  refine zGetR (D := D) (ci := 11) (C := RX11) (T := TX11) (N := 16) hx hb hts hiX11 hown hH (zk_0 hF) rfl 0 (by decide) rfl hw1 (fun _ h9 => h9) dX11_readKind_1 (zr_0_0 hF) ?_
  refine zLdcW hx hb hown (hz.1.2.2.2.1 1 _ rfl).2 dX11_readKind_4 ?_
  refine va_calli (va_runV (As := [.ref (sad 1)]) (rest := []) ⟨hx, hb, hml, hown, hts⟩ (t_takesWord l hl0 D A sad τ fi fr ol L a hF hn ha (by omega) (by omega) 1 ((424, "behind", [98, 101, 104, 105, 110, 100])) rfl) (cwV 1 hts gX11_readKind_X7_takesWord rfl rfl rfl (by decide +kernel) ⟨Nat.le_of_ble_eq_true rfl, Nat.le_of_ble_eq_true rfl⟩) ⟨zQc_bl, zRecv hH (zk_1 hF) rfl, zQc_at hz hS hA hH⟩ rfl rfl hl.1 rfl (lv_room (Nat.le_of_ble_eq_true rfl)) dX11_readKind_7 ⟨Nat.le_of_ble_eq_true rfl, Nat.le_of_ble_eq_true rfl⟩) hS (fun q _ h => h) (fun q h => h) (fun r101 u9 t9 H1 locs ht9 hvm9 hw hB hz1 hk1 hS => ?_)
  have hH := zMv ht9 hvm9 hB
  clear hB
  generalize u9 = f102 at hw hH
  generalize H1 = H at hH hS ⊢
  have hr01 : r101 = 1 ∨ r101 = 0 := hw.elim (fun h => Or.inl h.1) (fun h => Or.inr h.1)
  obtain ⟨b103, hb104, q105, hf106⟩ := zTw.takes ha (by omega) hw
  have q107 : f102 1 1 = nI L := by rw [hf106 1 1 (by omega)]; exact hn
  rcases hr01 with rfl | rfl
  · skip
    refine lv_if_eq (tgt := 15) hx hb dX11_readKind_10 (by decide) (fun c108 => absurd c108 (by decide)) (fun c108 => ?_)
    refine lv_iconst (v := nI 0) hx hb dX11_readKind_13 (by decide) ?_
    refine W.widen (k := 0) (n := 0) (by decide) (by decide) ?_
    exact W.iret (v := nI 0) hx hb hr (fun t9 ht9 hW9 => ⟨⟨nI 0, f102, rfl, ⟨Or.inl ⟨0, by omega, rfl⟩, ⟨b103, by omega, q105⟩, fun i k h => by rw [hf106 i k (by omega)]⟩, zEnd1 hH ht9 hW9⟩, hS.F ht9⟩) hS.2.2 dX11_readKind_14
  · skip
    refine lv_if_eq (tgt := 15) hx hb dX11_readKind_10 (by decide) (fun c109 => ?_) (fun c109 => absurd (by decide) c109)
    refine lv_aload_n hx hb dX11_readKind_15 rfl (lv_at hl 0 rfl) ?_
    refine zGetR (D := D) (ci := 11) (C := RX11) (T := TX11) (N := 16) hx hb hts hiX11 hown hH (zk_0 hF) rfl 0 (by decide) rfl hw1 (fun _ h9 => h9) dX11_readKind_16 (zr_0_0 hF) ?_
    refine zLdcW hx hb hown (hz.1.2.2.2.1 2 _ rfl).2 dX11_readKind_19 ?_
    refine va_calli (va_runV (As := [.ref (sad 2)]) (rest := []) ⟨hx, hb, hml, hown, hts⟩ (t_takesWord l hl0 D A sad τ f102 fr ol L b103 hF q107 q105 (by omega) (by omega) 2 ((426, "post", [112, 111, 115, 116])) rfl) (cwV 1 hts gX11_readKind_X7_takesWord rfl rfl rfl (by decide +kernel) ⟨Nat.le_of_ble_eq_true rfl, Nat.le_of_ble_eq_true rfl⟩) ⟨zQc_bl, zRecv hH (zk_1 hF) rfl, zQc_at hz hS hA hH⟩ rfl rfl hl.1 rfl (lv_room (Nat.le_of_ble_eq_true rfl)) dX11_readKind_22 ⟨Nat.le_of_ble_eq_true rfl, Nat.le_of_ble_eq_true rfl⟩) hS (fun q _ h => h) (fun q h => h) (fun r110 u9 t9 H1 locs ht9 hvm9 hw hB hz1 hk1 hS => ?_)
    have hH := zMv ht9 hvm9 hB
    clear hB
    generalize u9 = f111 at hw hH
    generalize H1 = H at hH hS ⊢
    have hr01 : r110 = 1 ∨ r110 = 0 := hw.elim (fun h => Or.inl h.1) (fun h => Or.inr h.1)
    obtain ⟨b112, hb113, q114, hf115⟩ := zTw.takes q105 (by omega) hw
    have q116 : f111 1 1 = nI L := by rw [hf115 1 1 (by omega)]; exact q107
    rcases hr01 with rfl | rfl
    · skip
      refine lv_if_eq (tgt := 30) hx hb dX11_readKind_25 (by decide) (fun c117 => absurd c117 (by decide)) (fun c117 => ?_)
      refine lv_iconst (v := nI 1) hx hb dX11_readKind_28 (by decide) ?_
      refine W.widen (k := 0) (n := 0) (by decide) (by decide) ?_
      exact W.iret (v := nI 1) hx hb hr (fun t9 ht9 hW9 => ⟨⟨nI 1, f111, rfl, ⟨Or.inl ⟨1, by omega, rfl⟩, ⟨b112, by omega, q114⟩, fun i k h => by rw [hf115 i k (by omega), hf106 i k (by omega)]⟩, zEnd1 hH ht9 hW9⟩, hS.F ht9⟩) hS.2.2 dX11_readKind_29
    · skip
      refine lv_if_eq (tgt := 30) hx hb dX11_readKind_25 (by decide) (fun c118 => ?_) (fun c118 => absurd (by decide) c118)
      refine lv_aload_n hx hb dX11_readKind_30 rfl (lv_at hl 0 rfl) ?_
      refine zGetR (D := D) (ci := 11) (C := RX11) (T := TX11) (N := 16) hx hb hts hiX11 hown hH (zk_0 hF) rfl 0 (by decide) rfl hw1 (fun _ h9 => h9) dX11_readKind_31 (zr_0_0 hF) ?_
      refine zLdcW hx hb hown (hz.1.2.2.2.1 3 _ rfl).2 dX11_readKind_34 ?_
      refine va_calli (va_runV (As := [.ref (sad 3)]) (rest := []) ⟨hx, hb, hml, hown, hts⟩ (t_takesWord l hl0 D A sad τ f111 fr ol L b112 hF q116 q114 (by omega) (by omega) 3 ((427, "free", [102, 114, 101, 101])) rfl) (cwV 1 hts gX11_readKind_X7_takesWord rfl rfl rfl (by decide +kernel) ⟨Nat.le_of_ble_eq_true rfl, Nat.le_of_ble_eq_true rfl⟩) ⟨zQc_bl, zRecv hH (zk_1 hF) rfl, zQc_at hz hS hA hH⟩ rfl rfl hl.1 rfl (lv_room (Nat.le_of_ble_eq_true rfl)) dX11_readKind_37 ⟨Nat.le_of_ble_eq_true rfl, Nat.le_of_ble_eq_true rfl⟩) hS (fun q _ h => h) (fun q h => h) (fun r119 u9 t9 H1 locs ht9 hvm9 hw hB hz1 hk1 hS => ?_)
      have hH := zMv ht9 hvm9 hB
      clear hB
      generalize u9 = f120 at hw hH
      generalize H1 = H at hH hS ⊢
      have hr01 : r119 = 1 ∨ r119 = 0 := hw.elim (fun h => Or.inl h.1) (fun h => Or.inr h.1)
      obtain ⟨b121, hb122, q123, hf124⟩ := zTw.takes q114 (by omega) hw
      have q125 : f120 1 1 = nI L := by rw [hf124 1 1 (by omega)]; exact q116
      rcases hr01 with rfl | rfl
      · skip
        refine lv_if_eq (tgt := 45) hx hb dX11_readKind_40 (by decide) (fun c126 => absurd c126 (by decide)) (fun c126 => ?_)
        refine lv_iconst (v := nI 2) hx hb dX11_readKind_43 (by decide) ?_
        refine W.widen (k := 0) (n := 0) (by decide) (by decide) ?_
        exact W.iret (v := nI 2) hx hb hr (fun t9 ht9 hW9 => ⟨⟨nI 2, f120, rfl, ⟨Or.inl ⟨2, by omega, rfl⟩, ⟨b121, by omega, q123⟩, fun i k h => by rw [hf124 i k (by omega), hf115 i k (by omega), hf106 i k (by omega)]⟩, zEnd1 hH ht9 hW9⟩, hS.F ht9⟩) hS.2.2 dX11_readKind_44
      · skip
        refine lv_if_eq (tgt := 45) hx hb dX11_readKind_40 (by decide) (fun c127 => ?_) (fun c127 => absurd (by decide) c127)
        refine lv_aload_n hx hb dX11_readKind_45 rfl (lv_at hl 0 rfl) ?_
        refine zGetR (D := D) (ci := 11) (C := RX11) (T := TX11) (N := 16) hx hb hts hiX11 hown hH (zk_0 hF) rfl 0 (by decide) rfl hw1 (fun _ h9 => h9) dX11_readKind_46 (zr_0_0 hF) ?_
        refine zLdcW hx hb hown (hz.1.2.2.2.1 4 _ rfl).2 dX11_readKind_49 ?_
        refine va_calli (va_runV (As := [.ref (sad 4)]) (rest := []) ⟨hx, hb, hml, hown, hts⟩ (t_takesWord l hl0 D A sad τ f120 fr ol L b121 hF q125 q123 (by omega) (by omega) 4 ((429, "back", [98, 97, 99, 107])) rfl) (cwV 1 hts gX11_readKind_X7_takesWord rfl rfl rfl (by decide +kernel) ⟨Nat.le_of_ble_eq_true rfl, Nat.le_of_ble_eq_true rfl⟩) ⟨zQc_bl, zRecv hH (zk_1 hF) rfl, zQc_at hz hS hA hH⟩ rfl rfl hl.1 rfl (lv_room (Nat.le_of_ble_eq_true rfl)) dX11_readKind_52 ⟨Nat.le_of_ble_eq_true rfl, Nat.le_of_ble_eq_true rfl⟩) hS (fun q _ h => h) (fun q h => h) (fun r128 u9 t9 H1 locs ht9 hvm9 hw hB hz1 hk1 hS => ?_)
        have hH := zMv ht9 hvm9 hB
        clear hB
        generalize u9 = f129 at hw hH
        generalize H1 = H at hH hS ⊢
        have hr01 : r128 = 1 ∨ r128 = 0 := hw.elim (fun h => Or.inl h.1) (fun h => Or.inr h.1)
        obtain ⟨b130, hb131, q132, hf133⟩ := zTw.takes q123 (by omega) hw
        have q134 : f129 1 1 = nI L := by rw [hf133 1 1 (by omega)]; exact q125
        rcases hr01 with rfl | rfl
        · skip
          refine lv_if_eq (tgt := 62) hx hb dX11_readKind_55 (by decide) (fun c135 => absurd c135 (by decide)) (fun c135 => ?_)
          refine lv_iconst (v := nI 3) hx hb dX11_readKind_58 (by decide) ?_
          refine lv_goto (tgt := 63) hx hb dX11_readKind_59 (by decide) ?_
          refine W.widen (k := 0) (n := 0) (by decide) (by decide) ?_
          exact W.iret (v := nI 3) hx hb hr (fun t9 ht9 hW9 => ⟨⟨nI 3, f129, rfl, ⟨Or.inl ⟨3, by omega, rfl⟩, ⟨b130, by omega, q132⟩, fun i k h => by rw [hf133 i k (by omega), hf124 i k (by omega), hf115 i k (by omega), hf106 i k (by omega)]⟩, zEnd1 hH ht9 hW9⟩, hS.F ht9⟩) hS.2.2 dX11_readKind_63
        · skip
          refine lv_if_eq (tgt := 62) hx hb dX11_readKind_55 (by decide) (fun c136 => ?_) (fun c136 => absurd (by decide) c136)
          refine lv_iconst (v := (-1)) hx hb dX11_readKind_62 (by decide) ?_
          refine W.widen (k := 0) (n := 0) (by decide) (by decide) ?_
          exact W.iret (v := (-1)) hx hb hr (fun t9 ht9 hW9 => ⟨⟨(-1), f129, rfl, ⟨Or.inr rfl, ⟨b130, by omega, q132⟩, fun i k h => by rw [hf133 i k (by omega), hf124 i k (by omega), hf115 i k (by omega), hf106 i k (by omega)]⟩, zEnd1 hH ht9 hW9⟩, hS.F ht9⟩) hS.2.2 dX11_readKind_63
set_option maxHeartbeats 4000000 in
set_option maxRecDepth 100000 in
/-- readThing -/
theorem w_readThingN (l : Launch) (hl0 : l.stackTraces = false) (D : va_G) (A : Nat → Prop) (sad : Nat → Nat) (τ : zTy) (fi : zFi) (fr : zFr) (ol : Int64) (L a : Nat) (hF : zFix τ fr) (hn : fi 1 1 = nI L) (ha : fi 1 2 = nI a) (hn4 : L ≤ 400) (han : a ≤ L) (n : Nat) (hT : zTh τ fi fr n) : Met l yX11_readThing wsX11_readThing ({ frames := 3, cells := 0, slots := 0, locals := 69 }) (va_Pc [.ref (τ.1 0), .null] (zQc D A sad τ fi fr ol)) (va_Qq (fun (r : Option Nat) (u : zFi) => ((∃ t, t < n ∧ r = some (τ.1 (300 + t))) ∨ r = none) ∧ (∃ b, b ≤ L ∧ u 1 2 = nI b) ∧ ∀ i k, ¬ (i = 1 ∧ 2 ≤ k) → u i k = fi i k) (fun (u : zFi) (t : State) => zH D A τ u fr ol t t.heap) A) 0 0 A := by
  refine Met.ofW (cc := cX11_readThing) (maxL := 4) (ret := (some (.object "PostHouse$Thing"))) (by decide) rfl ?_
  intro p9 e9 s m args below meth c9 s₁ B hml hv
  obtain ⟨rfl, hz, hH, hA⟩ := hv
  have hx := B.exec
  have hb := B.bytes
  have hr := B.returns
  have hts := atoms_spec (ws := wsX11_readThing) B.pre
  have hown : s.vm.findClass RX11 = some m.cls := findClass_of_methodNamed B.named
  have hlocks := B.notSynchronized
  have hS : va_S A s.heap s.heap [] := va_S.rf
  have hl := lv_entry ([.ref (τ.1 0), .null]) (n := 4) (Nat.le_of_ble_eq_true rfl)
  rw [lg_entry_eq]
  generalize (lg_sl ([.ref (τ.1 0), .null]) ++ List.replicate (4 - (lg_sl ([.ref (τ.1 0), .null])).length) Slot.unset).toArray = ls at hl ⊢
  have hl : lv_has ls 4 [(0, .ref (τ.1 0)), (1, .null)] := hl
  have hn30 := hT.1
  have hiX11 : ∀ w ∈ u_ws RX11 TX11 16, w ∈ wsX11_readThing := fun _ h => List.mem_cons_of_mem _ (List.mem_append_left _ (List.mem_append_left _ (List.mem_append_left _ (List.mem_append_right _ h))))
  have hw1 := hts (.fieldLink RX11 10 "PostHouse" "tape" "LPostHouse$Tape;") (by decide +kernel)
  have hiX7 : ∀ w ∈ u_ws RX7 TX7 4, w ∈ wsX11_readThing := fun _ h => List.mem_cons_of_mem _ (List.mem_append_left _ (List.mem_append_left _ (List.mem_append_right _ h)))
  have hw3 := hts (.fieldLink RX11 413 "PostHouse$Tape" "next" "I") (by decide +kernel)
  have hw4 := hts (.fieldLink RX11 19 "PostHouse" "book" "LPostHouse$Book;") (by decide +kernel)
  refine lv_aload_n hx hb dX11_readThing_0 rfl (lv_at hl 0 rfl) ?_
  refine zGetR (D := D) (ci := 11) (C := RX11) (T := TX11) (N := 16) hx hb hts hiX11 hown hH (zk_0 hF) rfl 0 (by decide) rfl hw1 (fun _ h9 => h9) dX11_readThing_1 (zr_0_0 hF) ?_
  refine zGetI (D := D) (ci := 7) (C := RX7) (T := TX7) (N := 4) hx hb hts hiX7 hown hH (zk_1 hF) rfl 2 (by decide) rfl hw3 (fun _ h9 => h9) dX11_readThing_4 ha ?_
  refine lv_istore_n (lv' := [(2, .int (nI a)), (0, .ref (τ.1 0)), (1, .null)]) hx hb dX11_readThing_7 rfl hl (by decide) rfl (fun ls hl => ?_)
  refine lv_aload_n hx hb dX11_readThing_8 rfl (lv_at hl 1 rfl) ?_
  refine zGetR (D := D) (ci := 11) (C := RX11) (T := TX11) (N := 16) hx hb hts hiX11 hown hH (zk_0 hF) rfl 1 (by decide) rfl hw4 (fun _ h9 => h9) dX11_readThing_9 (zr_0_1 hF) ?_
  refine lv_aload_n hx hb dX11_readThing_12 rfl (lv_at hl 1 rfl) ?_
  refine zGetR (D := D) (ci := 11) (C := RX11) (T := TX11) (N := 16) hx hb hts hiX11 hown hH (zk_0 hF) rfl 0 (by decide) rfl hw1 (fun _ h9 => h9) dX11_readThing_13 (zr_0_0 hF) ?_
  refine va_calli (va_runV (As := []) (rest := [.ref (τ.1 3)]) ⟨hx, hb, hml, hown, hts⟩ (t_code l hl0 D A sad τ fi fr ol L a hF hn ha (by omega) (by omega)) (cwV 0 hts gX11_readThing_X7_code rfl rfl rfl (by decide +kernel) ⟨Nat.le_of_ble_eq_true rfl, Nat.le_of_ble_eq_true rfl⟩) ⟨zQc_bl, zRecv hH (zk_1 hF) rfl, zQc_at hz hS hA hH⟩ rfl rfl hl.1 rfl (lv_room (Nat.le_of_ble_eq_true rfl)) dX11_readThing_16 ⟨Nat.le_of_ble_eq_true rfl, Nat.le_of_ble_eq_true rfl⟩) hS (fun q _ h => h) (fun q h => h) (fun r101 u9 t9 H1 locs ht9 hvm9 hw hB hz1 hk1 hS => ?_)
  have hH := zMv ht9 hvm9 hB
  clear hB
  generalize u9 = f102 at hw hH
  generalize H1 = H at hH hS ⊢
  obtain ⟨b103, hb104, q105, hf106⟩ := zTw.num ha (by omega) hw
  have q107 : f102 1 1 = nI L := by rw [hf106 1 1 (by omega)]; exact hn
  have hT := zTh.ci (fi' := f102) hT (fun i9 k9 h9 => hf106 i9 k9 (by omega))
  refine va_callq (va_runV (As := [.int r101]) (rest := []) ⟨hx, hb, hml, hown, hts⟩ (c_ofCode l hl0 D A sad τ f102 fr ol r101 hF n hT) (cwV 1 hts gX11_readThing_X0_ofCode rfl rfl rfl (by decide +kernel) ⟨Nat.le_of_ble_eq_true rfl, Nat.le_of_ble_eq_true rfl⟩) ⟨zQc_bl, zRecv hH (zk_3 hF) rfl, zQc_at hz hS hA hH⟩ rfl rfl hl.1 rfl (lv_room (Nat.le_of_ble_eq_true rfl)) dX11_readThing_19 ⟨Nat.le_of_ble_eq_true rfl, Nat.le_of_ble_eq_true rfl⟩) hS (fun q _ h => h) (fun q h => h) (fun r108 u9 t9 H1 locs ht9 hvm9 hw hB hz1 hk1 hS => ?_)
  have hH := zMv ht9 hvm9 hB
  generalize H1 = H at hH hS ⊢
  rcases hw with ⟨t, ht, hcd, hcl, rfl⟩ | ⟨hno, rfl⟩
  · skip
    refine lv_astore_n (lv' := [(3, .ref (τ.1 (300 + t))), (2, .int (nI a)), (0, .ref (τ.1 0)), (1, .null)]) hx hb dX11_readThing_22 rfl hl (by decide) rfl (fun ls hl => ?_)
    refine lv_aload_n hx hb dX11_readThing_23 rfl (lv_at hl 0 rfl) ?_
    refine lv_ifnull hx hb dX11_readThing_24 ?_
    refine lv_aload_n hx hb dX11_readThing_27 rfl (lv_at hl 0 rfl) ?_
    refine lv_aload_nN hx hb dX11_readThing_28 rfl (lv_at hl 3 rfl) ?_
    refine lv_acmp_ne (rx := (some (τ.1 (300 + t)))) (ry := none) (tgt := 42) hx hb dX11_readThing_29 (by decide) (fun c109 => ?_) (fun c109 => ?_)
    · have zc109 := c109
      refine lv_aload_n hx hb dX11_readThing_42 rfl (lv_at hl 0 rfl) ?_
      refine W.widen (k := 0) (n := 0) (by decide) (by decide) ?_
      exact W.aret (v := .ref (τ.1 (300 + t))) hx hb hr (Or.inl ⟨_, rfl⟩) (Or.inr ⟨_, rfl⟩) (fun t9 ht9 hW9 => ⟨⟨(some (τ.1 (300 + t))), f102, rfl, ⟨Or.inl ⟨t, ht, rfl⟩, ⟨b103, by omega, q105⟩, fun i k h => by rw [hf106 i k (by omega)]⟩, zEnd1 hH ht9 hW9⟩, hS.F ht9⟩) hS.2.2 dX11_readThing_43
    · have zc109 := c109
      refine lv_aload_n hx hb dX11_readThing_32 rfl (lv_at hl 2 rfl) ?_
      refine zGetR (D := D) (ci := 11) (C := RX11) (T := TX11) (N := 16) hx hb hts hiX11 hown hH (zk_0 hF) rfl 0 (by decide) rfl hw1 (fun _ h9 => h9) dX11_readThing_33 (zr_0_0 hF) ?_
      refine lv_iload_n hx hb dX11_readThing_36 rfl (lv_at hl 1 rfl) ?_
      refine va_callv (va_runV (As := [.int (nI a)]) (rest := []) ⟨hx, hb, hml, hown, hts⟩ (t_refuse l hl0 D A sad τ f102 fr ol hF (nI a)) (cwV 1 hts gX11_readThing_X7_refuse rfl rfl rfl (by decide +kernel) ⟨Nat.le_of_ble_eq_true rfl, Nat.le_of_ble_eq_true rfl⟩) ⟨zQc_bl, zRecv hH (zk_1 hF) rfl, zQc_at hz hS hA hH⟩ rfl rfl hl.1 rfl (lv_room (Nat.le_of_ble_eq_true rfl)) dX11_readThing_37 ⟨Nat.le_of_ble_eq_true rfl, Nat.le_of_ble_eq_true rfl⟩) hS (fun q _ h => h) (fun q h => h) (fun u9 t9 H1 locs ht9 hvm9 hw hB hz1 hk1 hS => ?_)
      have hH := zMv ht9 hvm9 hB
      clear hB
      generalize u9 = f111 at hw hH
      generalize H1 = H at hH hS ⊢
      obtain ⟨b112, hb113, q114, hf115⟩ := zTw.ref (L := L) q105 (by omega) hw
      have q116 : f111 1 1 = nI L := by rw [hf115 1 1 (by omega)]; exact q107
      have hT := zTh.ci (fi' := f111) hT (fun i9 k9 h9 => hf115 i9 k9 (by omega))
      refine lv_null hx hb dX11_readThing_40 ?_
      refine W.widen (k := 0) (n := 0) (by decide) (by decide) ?_
      exact W.aret (v := .null) hx hb hr (Or.inl ⟨_, rfl⟩) (Or.inl rfl) (fun t9 ht9 hW9 => ⟨⟨none, f111, rfl, ⟨Or.inr rfl, ⟨b112, by omega, q114⟩, fun i k h => by rw [hf115 i k (by omega), hf106 i k (by omega)]⟩, zEnd1 hH ht9 hW9⟩, hS.F ht9⟩) hS.2.2 dX11_readThing_41
  · skip
    refine lv_astore_nN (lv' := [(3, .null), (2, .int (nI a)), (0, .ref (τ.1 0)), (1, .null)]) hx hb dX11_readThing_22 rfl hl (by decide) rfl (fun ls hl => ?_)
    refine lv_aload_nN hx hb dX11_readThing_23 rfl (lv_at hl 0 rfl) ?_
    refine lv_ifnullN (tgt := 32) hx hb dX11_readThing_24 (by decide) ?_
    refine lv_aload_n hx hb dX11_readThing_32 rfl (lv_at hl 2 rfl) ?_
    refine zGetR (D := D) (ci := 11) (C := RX11) (T := TX11) (N := 16) hx hb hts hiX11 hown hH (zk_0 hF) rfl 0 (by decide) rfl hw1 (fun _ h9 => h9) dX11_readThing_33 (zr_0_0 hF) ?_
    refine lv_iload_n hx hb dX11_readThing_36 rfl (lv_at hl 1 rfl) ?_
    refine va_callv (va_runV (As := [.int (nI a)]) (rest := []) ⟨hx, hb, hml, hown, hts⟩ (t_refuse l hl0 D A sad τ f102 fr ol hF (nI a)) (cwV 1 hts gX11_readThing_X7_refuse rfl rfl rfl (by decide +kernel) ⟨Nat.le_of_ble_eq_true rfl, Nat.le_of_ble_eq_true rfl⟩) ⟨zQc_bl, zRecv hH (zk_1 hF) rfl, zQc_at hz hS hA hH⟩ rfl rfl hl.1 rfl (lv_room (Nat.le_of_ble_eq_true rfl)) dX11_readThing_37 ⟨Nat.le_of_ble_eq_true rfl, Nat.le_of_ble_eq_true rfl⟩) hS (fun q _ h => h) (fun q h => h) (fun u9 t9 H1 locs ht9 hvm9 hw hB hz1 hk1 hS => ?_)
    have hH := zMv ht9 hvm9 hB
    clear hB
    generalize u9 = f118 at hw hH
    generalize H1 = H at hH hS ⊢
    obtain ⟨b119, hb120, q121, hf122⟩ := zTw.ref (L := L) q105 (by omega) hw
    have q123 : f118 1 1 = nI L := by rw [hf122 1 1 (by omega)]; exact q107
    have hT := zTh.ci (fi' := f118) hT (fun i9 k9 h9 => hf122 i9 k9 (by omega))
    refine lv_null hx hb dX11_readThing_40 ?_
    refine W.widen (k := 0) (n := 0) (by decide) (by decide) ?_
    exact W.aret (v := .null) hx hb hr (Or.inl ⟨_, rfl⟩) (Or.inl rfl) (fun t9 ht9 hW9 => ⟨⟨none, f118, rfl, ⟨Or.inr rfl, ⟨b119, by omega, q121⟩, fun i k h => by rw [hf122 i k (by omega), hf106 i k (by omega)]⟩, zEnd1 hH ht9 hW9⟩, hS.F ht9⟩) hS.2.2 dX11_readThing_41
set_option maxHeartbeats 4000000 in
set_option maxRecDepth 100000 in
/-- readThing -/
theorem w_readThingR (l : Launch) (hl0 : l.stackTraces = false) (D : va_G) (A : Nat → Prop) (sad : Nat → Nat) (τ : zTy) (fi : zFi) (fr : zFr) (ol : Int64) (L a : Nat) (hF : zFix τ fr) (hn : fi 1 1 = nI L) (ha : fi 1 2 = nI a) (hn4 : L ≤ 400) (han : a ≤ L) (n : Nat) (hT : zTh τ fi fr n) (t0 : Nat) (ht0 : t0 < n) : Met l yX11_readThing wsX11_readThing ({ frames := 3, cells := 0, slots := 0, locals := 69 }) (va_Pc [.ref (τ.1 0), .ref (τ.1 (300 + t0))] (zQc D A sad τ fi fr ol)) (va_Qq (fun (r : Option Nat) (u : zFi) => ((∃ t, t < n ∧ r = some (τ.1 (300 + t))) ∨ r = none) ∧ (∃ b, b ≤ L ∧ u 1 2 = nI b) ∧ ∀ i k, ¬ (i = 1 ∧ 2 ≤ k) → u i k = fi i k) (fun (u : zFi) (t : State) => zH D A τ u fr ol t t.heap) A) 0 0 A := by
  refine Met.ofW (cc := cX11_readThing) (maxL := 4) (ret := (some (.object "PostHouse$Thing"))) (by decide) rfl ?_
  intro p9 e9 s m args below meth c9 s₁ B hml hv
  obtain ⟨rfl, hz, hH, hA⟩ := hv
  have hx := B.exec
  have hb := B.bytes
  have hr := B.returns
  have hts := atoms_spec (ws := wsX11_readThing) B.pre
  have hown : s.vm.findClass RX11 = some m.cls := findClass_of_methodNamed B.named
  have hlocks := B.notSynchronized
  have hS : va_S A s.heap s.heap [] := va_S.rf
  have hl := lv_entry ([.ref (τ.1 0), .ref (τ.1 (300 + t0))]) (n := 4) (Nat.le_of_ble_eq_true rfl)
  rw [lg_entry_eq]
  generalize (lg_sl ([.ref (τ.1 0), .ref (τ.1 (300 + t0))]) ++ List.replicate (4 - (lg_sl ([.ref (τ.1 0), .ref (τ.1 (300 + t0))])).length) Slot.unset).toArray = ls at hl ⊢
  have hl : lv_has ls 4 [(0, .ref (τ.1 0)), (1, .ref (τ.1 (300 + t0)))] := hl
  have hn30 := hT.1
  have hiX11 : ∀ w ∈ u_ws RX11 TX11 16, w ∈ wsX11_readThing := fun _ h => List.mem_cons_of_mem _ (List.mem_append_left _ (List.mem_append_left _ (List.mem_append_left _ (List.mem_append_right _ h))))
  have hw1 := hts (.fieldLink RX11 10 "PostHouse" "tape" "LPostHouse$Tape;") (by decide +kernel)
  have hiX7 : ∀ w ∈ u_ws RX7 TX7 4, w ∈ wsX11_readThing := fun _ h => List.mem_cons_of_mem _ (List.mem_append_left _ (List.mem_append_left _ (List.mem_append_right _ h)))
  have hw3 := hts (.fieldLink RX11 413 "PostHouse$Tape" "next" "I") (by decide +kernel)
  have hw4 := hts (.fieldLink RX11 19 "PostHouse" "book" "LPostHouse$Book;") (by decide +kernel)
  refine lv_aload_n hx hb dX11_readThing_0 rfl (lv_at hl 0 rfl) ?_
  refine zGetR (D := D) (ci := 11) (C := RX11) (T := TX11) (N := 16) hx hb hts hiX11 hown hH (zk_0 hF) rfl 0 (by decide) rfl hw1 (fun _ h9 => h9) dX11_readThing_1 (zr_0_0 hF) ?_
  refine zGetI (D := D) (ci := 7) (C := RX7) (T := TX7) (N := 4) hx hb hts hiX7 hown hH (zk_1 hF) rfl 2 (by decide) rfl hw3 (fun _ h9 => h9) dX11_readThing_4 ha ?_
  refine lv_istore_n (lv' := [(2, .int (nI a)), (0, .ref (τ.1 0)), (1, .ref (τ.1 (300 + t0)))]) hx hb dX11_readThing_7 rfl hl (by decide) rfl (fun ls hl => ?_)
  refine lv_aload_n hx hb dX11_readThing_8 rfl (lv_at hl 1 rfl) ?_
  refine zGetR (D := D) (ci := 11) (C := RX11) (T := TX11) (N := 16) hx hb hts hiX11 hown hH (zk_0 hF) rfl 1 (by decide) rfl hw4 (fun _ h9 => h9) dX11_readThing_9 (zr_0_1 hF) ?_
  refine lv_aload_n hx hb dX11_readThing_12 rfl (lv_at hl 1 rfl) ?_
  refine zGetR (D := D) (ci := 11) (C := RX11) (T := TX11) (N := 16) hx hb hts hiX11 hown hH (zk_0 hF) rfl 0 (by decide) rfl hw1 (fun _ h9 => h9) dX11_readThing_13 (zr_0_0 hF) ?_
  refine va_calli (va_runV (As := []) (rest := [.ref (τ.1 3)]) ⟨hx, hb, hml, hown, hts⟩ (t_code l hl0 D A sad τ fi fr ol L a hF hn ha (by omega) (by omega)) (cwV 0 hts gX11_readThing_X7_code rfl rfl rfl (by decide +kernel) ⟨Nat.le_of_ble_eq_true rfl, Nat.le_of_ble_eq_true rfl⟩) ⟨zQc_bl, zRecv hH (zk_1 hF) rfl, zQc_at hz hS hA hH⟩ rfl rfl hl.1 rfl (lv_room (Nat.le_of_ble_eq_true rfl)) dX11_readThing_16 ⟨Nat.le_of_ble_eq_true rfl, Nat.le_of_ble_eq_true rfl⟩) hS (fun q _ h => h) (fun q h => h) (fun r101 u9 t9 H1 locs ht9 hvm9 hw hB hz1 hk1 hS => ?_)
  have hH := zMv ht9 hvm9 hB
  clear hB
  generalize u9 = f102 at hw hH
  generalize H1 = H at hH hS ⊢
  obtain ⟨b103, hb104, q105, hf106⟩ := zTw.num ha (by omega) hw
  have q107 : f102 1 1 = nI L := by rw [hf106 1 1 (by omega)]; exact hn
  have hT := zTh.ci (fi' := f102) hT (fun i9 k9 h9 => hf106 i9 k9 (by omega))
  refine va_callq (va_runV (As := [.int r101]) (rest := []) ⟨hx, hb, hml, hown, hts⟩ (c_ofCode l hl0 D A sad τ f102 fr ol r101 hF n hT) (cwV 1 hts gX11_readThing_X0_ofCode rfl rfl rfl (by decide +kernel) ⟨Nat.le_of_ble_eq_true rfl, Nat.le_of_ble_eq_true rfl⟩) ⟨zQc_bl, zRecv hH (zk_3 hF) rfl, zQc_at hz hS hA hH⟩ rfl rfl hl.1 rfl (lv_room (Nat.le_of_ble_eq_true rfl)) dX11_readThing_19 ⟨Nat.le_of_ble_eq_true rfl, Nat.le_of_ble_eq_true rfl⟩) hS (fun q _ h => h) (fun q h => h) (fun r108 u9 t9 H1 locs ht9 hvm9 hw hB hz1 hk1 hS => ?_)
  have hH := zMv ht9 hvm9 hB
  generalize H1 = H at hH hS ⊢
  rcases hw with ⟨t, ht, hcd, hcl, rfl⟩ | ⟨hno, rfl⟩
  · skip
    refine lv_astore_n (lv' := [(3, .ref (τ.1 (300 + t))), (2, .int (nI a)), (0, .ref (τ.1 0)), (1, .ref (τ.1 (300 + t0)))]) hx hb dX11_readThing_22 rfl hl (by decide) rfl (fun ls hl => ?_)
    refine lv_aload_n hx hb dX11_readThing_23 rfl (lv_at hl 0 rfl) ?_
    refine lv_ifnull hx hb dX11_readThing_24 ?_
    refine lv_aload_n hx hb dX11_readThing_27 rfl (lv_at hl 0 rfl) ?_
    refine lv_aload_n hx hb dX11_readThing_28 rfl (lv_at hl 3 rfl) ?_
    refine lv_acmp_ne (rx := (some (τ.1 (300 + t)))) (ry := (some (τ.1 (300 + t0)))) (tgt := 42) hx hb dX11_readThing_29 (by decide) (fun c109 => ?_) (fun c109 => ?_)
    · have zc109 := c109
      refine lv_aload_n hx hb dX11_readThing_42 rfl (lv_at hl 0 rfl) ?_
      refine W.widen (k := 0) (n := 0) (by decide) (by decide) ?_
      exact W.aret (v := .ref (τ.1 (300 + t))) hx hb hr (Or.inl ⟨_, rfl⟩) (Or.inr ⟨_, rfl⟩) (fun t9 ht9 hW9 => ⟨⟨(some (τ.1 (300 + t))), f102, rfl, ⟨Or.inl ⟨t, ht, rfl⟩, ⟨b103, by omega, q105⟩, fun i k h => by rw [hf106 i k (by omega)]⟩, zEnd1 hH ht9 hW9⟩, hS.F ht9⟩) hS.2.2 dX11_readThing_43
    · have zc109 := c109
      refine lv_aload_n hx hb dX11_readThing_32 rfl (lv_at hl 2 rfl) ?_
      refine zGetR (D := D) (ci := 11) (C := RX11) (T := TX11) (N := 16) hx hb hts hiX11 hown hH (zk_0 hF) rfl 0 (by decide) rfl hw1 (fun _ h9 => h9) dX11_readThing_33 (zr_0_0 hF) ?_
      refine lv_iload_n hx hb dX11_readThing_36 rfl (lv_at hl 1 rfl) ?_
      refine va_callv (va_runV (As := [.int (nI a)]) (rest := []) ⟨hx, hb, hml, hown, hts⟩ (t_refuse l hl0 D A sad τ f102 fr ol hF (nI a)) (cwV 1 hts gX11_readThing_X7_refuse rfl rfl rfl (by decide +kernel) ⟨Nat.le_of_ble_eq_true rfl, Nat.le_of_ble_eq_true rfl⟩) ⟨zQc_bl, zRecv hH (zk_1 hF) rfl, zQc_at hz hS hA hH⟩ rfl rfl hl.1 rfl (lv_room (Nat.le_of_ble_eq_true rfl)) dX11_readThing_37 ⟨Nat.le_of_ble_eq_true rfl, Nat.le_of_ble_eq_true rfl⟩) hS (fun q _ h => h) (fun q h => h) (fun u9 t9 H1 locs ht9 hvm9 hw hB hz1 hk1 hS => ?_)
      have hH := zMv ht9 hvm9 hB
      clear hB
      generalize u9 = f111 at hw hH
      generalize H1 = H at hH hS ⊢
      obtain ⟨b112, hb113, q114, hf115⟩ := zTw.ref (L := L) q105 (by omega) hw
      have q116 : f111 1 1 = nI L := by rw [hf115 1 1 (by omega)]; exact q107
      have hT := zTh.ci (fi' := f111) hT (fun i9 k9 h9 => hf115 i9 k9 (by omega))
      refine lv_null hx hb dX11_readThing_40 ?_
      refine W.widen (k := 0) (n := 0) (by decide) (by decide) ?_
      exact W.aret (v := .null) hx hb hr (Or.inl ⟨_, rfl⟩) (Or.inl rfl) (fun t9 ht9 hW9 => ⟨⟨none, f111, rfl, ⟨Or.inr rfl, ⟨b112, by omega, q114⟩, fun i k h => by rw [hf115 i k (by omega), hf106 i k (by omega)]⟩, zEnd1 hH ht9 hW9⟩, hS.F ht9⟩) hS.2.2 dX11_readThing_41
  · skip
    refine lv_astore_nN (lv' := [(3, .null), (2, .int (nI a)), (0, .ref (τ.1 0)), (1, .ref (τ.1 (300 + t0)))]) hx hb dX11_readThing_22 rfl hl (by decide) rfl (fun ls hl => ?_)
    refine lv_aload_nN hx hb dX11_readThing_23 rfl (lv_at hl 0 rfl) ?_
    refine lv_ifnullN (tgt := 32) hx hb dX11_readThing_24 (by decide) ?_
    refine lv_aload_n hx hb dX11_readThing_32 rfl (lv_at hl 2 rfl) ?_
    refine zGetR (D := D) (ci := 11) (C := RX11) (T := TX11) (N := 16) hx hb hts hiX11 hown hH (zk_0 hF) rfl 0 (by decide) rfl hw1 (fun _ h9 => h9) dX11_readThing_33 (zr_0_0 hF) ?_
    refine lv_iload_n hx hb dX11_readThing_36 rfl (lv_at hl 1 rfl) ?_
    refine va_callv (va_runV (As := [.int (nI a)]) (rest := []) ⟨hx, hb, hml, hown, hts⟩ (t_refuse l hl0 D A sad τ f102 fr ol hF (nI a)) (cwV 1 hts gX11_readThing_X7_refuse rfl rfl rfl (by decide +kernel) ⟨Nat.le_of_ble_eq_true rfl, Nat.le_of_ble_eq_true rfl⟩) ⟨zQc_bl, zRecv hH (zk_1 hF) rfl, zQc_at hz hS hA hH⟩ rfl rfl hl.1 rfl (lv_room (Nat.le_of_ble_eq_true rfl)) dX11_readThing_37 ⟨Nat.le_of_ble_eq_true rfl, Nat.le_of_ble_eq_true rfl⟩) hS (fun q _ h => h) (fun q h => h) (fun u9 t9 H1 locs ht9 hvm9 hw hB hz1 hk1 hS => ?_)
    have hH := zMv ht9 hvm9 hB
    clear hB
    generalize u9 = f118 at hw hH
    generalize H1 = H at hH hS ⊢
    obtain ⟨b119, hb120, q121, hf122⟩ := zTw.ref (L := L) q105 (by omega) hw
    have q123 : f118 1 1 = nI L := by rw [hf122 1 1 (by omega)]; exact q107
    have hT := zTh.ci (fi' := f118) hT (fun i9 k9 h9 => hf122 i9 k9 (by omega))
    refine lv_null hx hb dX11_readThing_40 ?_
    refine W.widen (k := 0) (n := 0) (by decide) (by decide) ?_
    exact W.aret (v := .null) hx hb hr (Or.inl ⟨_, rfl⟩) (Or.inl rfl) (fun t9 ht9 hW9 => ⟨⟨none, f118, rfl, ⟨Or.inr rfl, ⟨b119, by omega, q121⟩, fun i k h => by rw [hf122 i k (by omega), hf106 i k (by omega)]⟩, zEnd1 hH ht9 hW9⟩, hS.F ht9⟩) hS.2.2 dX11_readThing_41
set_option maxHeartbeats 4000000 in
set_option maxRecDepth 100000 in
/-- readPlace -/
theorem w_readPlace (l : Launch) (hl0 : l.stackTraces = false) (D : va_G) (A : Nat → Prop) (sad : Nat → Nat) (τ : zTy) (fi : zFi) (fr : zFr) (ol : Int64) (L a : Nat) (hF : zFix τ fr) (hn : fi 1 1 = nI L) (ha : fi 1 2 = nI a) (hn4 : L ≤ 400) (han : a ≤ L) (n : Nat) (hT : zTh τ fi fr n) : Met l yX11_readPlace wsX11_readPlace ({ frames := 6, cells := 0, slots := 0, locals := 129 }) (va_Pc [.ref (τ.1 0)] (zQc D A sad τ fi fr ol)) (va_Qv (fun (u : zFi) => (∃ b, b ≤ L ∧ u 1 2 = nI b) ∧ ∀ i k, ¬ ((i = 1 ∧ 2 ≤ k) ∨ i = 14) → u i k = fi i k) (fun (u : zFi) (t : State) => zH D A τ u fr ol t t.heap) A) 0 0 A := by
  refine Met.ofW (cc := cX11_readPlace) (maxL := 3) (ret := none) (by decide) rfl ?_
  intro p9 e9 s m args below meth c9 s₁ B hml hv
  obtain ⟨rfl, hz, hH, hA⟩ := hv
  have hx := B.exec
  have hb := B.bytes
  have hr := B.returns
  have hts := atoms_spec (ws := wsX11_readPlace) B.pre
  have hown : s.vm.findClass RX11 = some m.cls := findClass_of_methodNamed B.named
  have hlocks := B.notSynchronized
  have hS : va_S A s.heap s.heap [] := va_S.rf
  have hl := lv_entry ([.ref (τ.1 0)]) (n := 3) (Nat.le_of_ble_eq_true rfl)
  rw [lg_entry_eq]
  generalize (lg_sl ([.ref (τ.1 0)]) ++ List.replicate (3 - (lg_sl ([.ref (τ.1 0)])).length) Slot.unset).toArray = ls at hl ⊢
  have hl : lv_has ls 3 [(0, .ref (τ.1 0))] := hl
  have hn30 := hT.1
  have hiX11 : ∀ w ∈ u_ws RX11 TX11 16, w ∈ wsX11_readPlace := fun _ h => List.mem_cons_of_mem _ (List.mem_append_left _ (List.mem_append_left _ (List.mem_append_left _ (List.mem_append_left _ (List.mem_append_right _ h)))))
  have hw1 := hts (.fieldLink RX11 10 "PostHouse" "tape" "LPostHouse$Tape;") (by decide +kernel)
  have hw2 := hts (.fieldLink RX11 37 "PostHouse" "draft" "LPostHouse$Rules;") (by decide +kernel)
  have hiX5 : ∀ w ∈ u_ws RX5 TX5 2, w ∈ wsX11_readPlace := fun _ h => List.mem_cons_of_mem _ (List.mem_append_left _ (List.mem_append_left _ (List.mem_append_left _ (List.mem_append_right _ h))))
  have hw4 := hts (.fieldLink RX11 178 "PostHouse$Rules" "places" "[I") (by decide +kernel)
  have hiX8 : ∀ w ∈ u_ws RX8 TX8 10, w ∈ wsX11_readPlace := fun _ h => List.mem_cons_of_mem _ (List.mem_append_left _ (List.mem_append_left _ (List.mem_append_right _ h)))
  have hw6 := hts (.fieldLink RX11 181 "PostHouse$Thing" "number" "I") (by decide +kernel)
  refine lv_aload_n hx hb dX11_readPlace_0 rfl (lv_at hl 0 rfl) ?_
  refine lv_null hx hb dX11_readPlace_1 ?_
  refine va_callq (va_runV (As := [.null]) (rest := []) ⟨hx, hb, hml, hown, hts⟩ (w_readThingN l hl0 D A sad τ fi fr ol L a hF hn ha (by omega) (by omega) n hT) (cwV 1 hts gX11_readPlace_X11_readThing rfl rfl rfl (by decide +kernel) ⟨Nat.le_of_ble_eq_true rfl, Nat.le_of_ble_eq_true rfl⟩) ⟨zQc_bl, zRecv hH (zk_0 hF) rfl, zQc_at hz hS hA hH⟩ rfl rfl hl.1 rfl (lv_room (Nat.le_of_ble_eq_true rfl)) dX11_readPlace_2 ⟨Nat.le_of_ble_eq_true rfl, Nat.le_of_ble_eq_true rfl⟩) hS (fun q _ h => h) (fun q h => h) (fun r101 u9 t9 H1 locs ht9 hvm9 hw hB hz1 hk1 hS => ?_)
  have hH := zMv ht9 hvm9 hB
  clear hB
  generalize u9 = f102 at hw hH
  generalize H1 = H at hH hS ⊢
  obtain ⟨hrt, ⟨b8, hb8, qb8⟩, hf8⟩ := hw
  obtain ⟨b103, hb104, q105, hf106⟩ := (⟨b8, hb8, qb8, fun i k q => hf8 i k q⟩ : zTw fi L f102)
  have q107 : f102 1 1 = nI L := by rw [hf106 1 1 (by omega)]; exact hn
  have hT := zTh.ci (fi' := f102) hT (fun i9 k9 h9 => hf106 i9 k9 (by omega))
  rcases hrt with ⟨t1, ht1, rfl⟩ | rfl
  · skip
    refine lv_astore_n (lv' := [(1, .ref (τ.1 (300 + t1))), (0, .ref (τ.1 0))]) hx hb dX11_readPlace_5 rfl hl (by decide) rfl (fun ls hl => ?_)
    refine lv_aload_n hx hb dX11_readPlace_6 rfl (lv_at hl 1 rfl) ?_
    refine zGetR (D := D) (ci := 11) (C := RX11) (T := TX11) (N := 16) hx hb hts hiX11 hown hH (zk_0 hF) rfl 0 (by decide) rfl hw1 (fun _ h9 => h9) dX11_readPlace_7 (zr_0_0 hF) ?_
    refine zLdcW hx hb hown (hz.1.2.2.2.1 5 _ rfl).2 dX11_readPlace_10 ?_
    refine va_callv (va_runV (As := [.ref (sad 5)]) (rest := []) ⟨hx, hb, hml, hown, hts⟩ (t_needWord l hl0 D A sad τ f102 fr ol L b103 hF q107 q105 (by omega) (by omega) 5 ((435, "by", [98, 121])) rfl) (cwV 1 hts gX11_readPlace_X7_needWord rfl rfl rfl (by decide +kernel) ⟨Nat.le_of_ble_eq_true rfl, Nat.le_of_ble_eq_true rfl⟩) ⟨zQc_bl, zRecv hH (zk_1 hF) rfl, zQc_at hz hS hA hH⟩ rfl rfl hl.1 rfl (lv_room (Nat.le_of_ble_eq_true rfl)) dX11_readPlace_13 ⟨Nat.le_of_ble_eq_true rfl, Nat.le_of_ble_eq_true rfl⟩) hS (fun q _ h => h) (fun q h => h) (fun u9 t9 H1 locs ht9 hvm9 hw hB hz1 hk1 hS => ?_)
    have hH := zMv ht9 hvm9 hB
    clear hB
    generalize u9 = f109 at hw hH
    generalize H1 = H at hH hS ⊢
    obtain ⟨b110, hb111, q112, hf113⟩ := zTw.need q105 (by omega) hw
    have q114 : f109 1 1 = nI L := by rw [hf113 1 1 (by omega)]; exact q107
    have hT := zTh.ci (fi' := f109) hT (fun i9 k9 h9 => hf113 i9 k9 (by omega))
    refine lv_aload_n hx hb dX11_readPlace_16 rfl (lv_at hl 1 rfl) ?_
    refine lv_aload_n hx hb dX11_readPlace_17 rfl (lv_at hl 0 rfl) ?_
    refine va_callq (va_runV (As := [.ref (τ.1 (300 + t1))]) (rest := []) ⟨hx, hb, hml, hown, hts⟩ (w_readThingR l hl0 D A sad τ f109 fr ol L b110 hF q114 q112 (by omega) (by omega) n hT t1 ht1) (cwV 1 hts gX11_readPlace_X11_readThing rfl rfl rfl (by decide +kernel) ⟨Nat.le_of_ble_eq_true rfl, Nat.le_of_ble_eq_true rfl⟩) ⟨zQc_bl, zRecv hH (zk_0 hF) rfl, zQc_at hz hS hA hH⟩ rfl rfl hl.1 rfl (lv_room (Nat.le_of_ble_eq_true rfl)) dX11_readPlace_18 ⟨Nat.le_of_ble_eq_true rfl, Nat.le_of_ble_eq_true rfl⟩) hS (fun q _ h => h) (fun q h => h) (fun r115 u9 t9 H1 locs ht9 hvm9 hw hB hz1 hk1 hS => ?_)
    have hH := zMv ht9 hvm9 hB
    clear hB
    generalize u9 = f116 at hw hH
    generalize H1 = H at hH hS ⊢
    obtain ⟨hrt, ⟨b8, hb8, qb8⟩, hf8⟩ := hw
    obtain ⟨b117, hb118, q119, hf120⟩ := (⟨b8, hb8, qb8, fun i k q => hf8 i k q⟩ : zTw f109 L f116)
    have q121 : f116 1 1 = nI L := by rw [hf120 1 1 (by omega)]; exact q114
    have hT := zTh.ci (fi' := f116) hT (fun i9 k9 h9 => hf120 i9 k9 (by omega))
    rcases hrt with ⟨t2, ht2, rfl⟩ | rfl
    · skip
      refine lv_astore_n (lv' := [(2, .ref (τ.1 (300 + t2))), (1, .ref (τ.1 (300 + t1))), (0, .ref (τ.1 0))]) hx hb dX11_readPlace_21 rfl hl (by decide) rfl (fun ls hl => ?_)
      refine lv_aload_n hx hb dX11_readPlace_22 rfl (lv_at hl 1 rfl) ?_
      refine lv_ifnull hx hb dX11_readPlace_23 ?_
      refine lv_aload_n hx hb dX11_readPlace_26 rfl (lv_at hl 0 rfl) ?_
      refine lv_ifnull hx hb dX11_readPlace_27 ?_
      refine lv_aload_n hx hb dX11_readPlace_30 rfl (lv_at hl 2 rfl) ?_
      refine zGetR (D := D) (ci := 11) (C := RX11) (T := TX11) (N := 16) hx hb hts hiX11 hown hH (zk_0 hF) rfl 4 (by decide) rfl hw2 (fun _ h9 => h9) dX11_readPlace_31 (zr_0_4 hF) ?_
      refine zGetR (D := D) (ci := 5) (C := RX5) (T := TX5) (N := 2) hx hb hts hiX5 hown hH (zk_12 hF) rfl 1 (by decide) rfl hw4 (fun _ h9 => h9) dX11_readPlace_34 (zr_12_1 hF) ?_
      refine lv_aload_n hx hb dX11_readPlace_37 rfl (lv_at hl 1 rfl) ?_
      refine zGetI (D := D) (ci := 8) (C := RX8) (T := TX8) (N := 10) hx hb hts hiX8 hown hH (hT.2.2.1 t1 (by omega)).1.1 rfl 0 (by decide) rfl hw6 (fun _ h9 => h9) dX11_readPlace_38 (hT.2.2.1 t1 (by omega)).2.2.2.1 ?_
      refine lv_aload_n hx hb dX11_readPlace_41 rfl (lv_at hl 0 rfl) ?_
      refine zGetI (D := D) (ci := 8) (C := RX8) (T := TX8) (N := 10) hx hb hts hiX8 hown hH (hT.2.2.1 t2 (by omega)).1.1 rfl 0 (by decide) rfl hw6 (fun _ h9 => h9) dX11_readPlace_42 (hT.2.2.1 t2 (by omega)).2.2.2.1 ?_
      refine zIastN (D := D) hx hb hH hS (zk_14 hF) (zn_14 hF) (by omega) (by omega) dX11_readPlace_45 (fun H locs hH hS => ?_)
      obtain ⟨f122, ef122⟩ : ∃ f9 : zFi, f9 = zu f116 14 t1 (nI t2) := ⟨_, rfl⟩
      rw [← ef122] at hH
      have q123 : f122 1 1 = nI L := by rw [ef122, zu_n (fun h9 => absurd h9.1 (by decide))]; exact q121
      have q124 : f122 1 2 = nI b117 := by rw [ef122, zu_n (fun h9 => absurd h9.1 (by decide))]; exact q119
      have q125 : f122 14 t1 = nI t2 := by rw [ef122]; exact zu_s
      have hT := zTh.ci (fi' := f122) hT (fun i9 k9 h9 => by rw [ef122]; exact zu_n (by omega))
      refine W.widen (k := 0) (n := 0) (by decide) (by decide) ?_
      exact W.vret hx hb hr (fun t9 ht9 hW9 => ⟨⟨f122, rfl, ⟨⟨b117, by omega, q124⟩, fun i k h => by rw [ef122, zu_n (by omega), hf120 i k (by omega), hf113 i k (by omega), hf106 i k (by omega)]⟩, zEnd1 hH ht9 hW9⟩, hS.F ht9⟩) hS.2.2 dX11_readPlace_46
    · skip
      refine lv_astore_nN (lv' := [(2, .null), (1, .ref (τ.1 (300 + t1))), (0, .ref (τ.1 0))]) hx hb dX11_readPlace_21 rfl hl (by decide) rfl (fun ls hl => ?_)
      refine lv_aload_n hx hb dX11_readPlace_22 rfl (lv_at hl 1 rfl) ?_
      refine lv_ifnull hx hb dX11_readPlace_23 ?_
      refine lv_aload_nN hx hb dX11_readPlace_26 rfl (lv_at hl 0 rfl) ?_
      refine lv_ifnullN (tgt := 46) hx hb dX11_readPlace_27 (by decide) ?_
      refine W.widen (k := 0) (n := 0) (by decide) (by decide) ?_
      exact W.vret hx hb hr (fun t9 ht9 hW9 => ⟨⟨f116, rfl, ⟨⟨b117, by omega, q119⟩, fun i k h => by rw [hf120 i k (by omega), hf113 i k (by omega), hf106 i k (by omega)]⟩, zEnd1 hH ht9 hW9⟩, hS.F ht9⟩) hS.2.2 dX11_readPlace_46
  · skip
    refine lv_astore_nN (lv' := [(1, .null), (0, .ref (τ.1 0))]) hx hb dX11_readPlace_5 rfl hl (by decide) rfl (fun ls hl => ?_)
    refine lv_aload_n hx hb dX11_readPlace_6 rfl (lv_at hl 1 rfl) ?_
    refine zGetR (D := D) (ci := 11) (C := RX11) (T := TX11) (N := 16) hx hb hts hiX11 hown hH (zk_0 hF) rfl 0 (by decide) rfl hw1 (fun _ h9 => h9) dX11_readPlace_7 (zr_0_0 hF) ?_
    refine zLdcW hx hb hown (hz.1.2.2.2.1 5 _ rfl).2 dX11_readPlace_10 ?_
    refine va_callv (va_runV (As := [.ref (sad 5)]) (rest := []) ⟨hx, hb, hml, hown, hts⟩ (t_needWord l hl0 D A sad τ f102 fr ol L b103 hF q107 q105 (by omega) (by omega) 5 ((435, "by", [98, 121])) rfl) (cwV 1 hts gX11_readPlace_X7_needWord rfl rfl rfl (by decide +kernel) ⟨Nat.le_of_ble_eq_true rfl, Nat.le_of_ble_eq_true rfl⟩) ⟨zQc_bl, zRecv hH (zk_1 hF) rfl, zQc_at hz hS hA hH⟩ rfl rfl hl.1 rfl (lv_room (Nat.le_of_ble_eq_true rfl)) dX11_readPlace_13 ⟨Nat.le_of_ble_eq_true rfl, Nat.le_of_ble_eq_true rfl⟩) hS (fun q _ h => h) (fun q h => h) (fun u9 t9 H1 locs ht9 hvm9 hw hB hz1 hk1 hS => ?_)
    have hH := zMv ht9 hvm9 hB
    clear hB
    generalize u9 = f127 at hw hH
    generalize H1 = H at hH hS ⊢
    obtain ⟨b128, hb129, q130, hf131⟩ := zTw.need q105 (by omega) hw
    have q132 : f127 1 1 = nI L := by rw [hf131 1 1 (by omega)]; exact q107
    have hT := zTh.ci (fi' := f127) hT (fun i9 k9 h9 => hf131 i9 k9 (by omega))
    refine lv_aload_n hx hb dX11_readPlace_16 rfl (lv_at hl 1 rfl) ?_
    refine lv_aload_nN hx hb dX11_readPlace_17 rfl (lv_at hl 0 rfl) ?_
    refine va_callq (va_runV (As := [.null]) (rest := []) ⟨hx, hb, hml, hown, hts⟩ (w_readThingN l hl0 D A sad τ f127 fr ol L b128 hF q132 q130 (by omega) (by omega) n hT) (cwV 1 hts gX11_readPlace_X11_readThing rfl rfl rfl (by decide +kernel) ⟨Nat.le_of_ble_eq_true rfl, Nat.le_of_ble_eq_true rfl⟩) ⟨zQc_bl, zRecv hH (zk_0 hF) rfl, zQc_at hz hS hA hH⟩ rfl rfl hl.1 rfl (lv_room (Nat.le_of_ble_eq_true rfl)) dX11_readPlace_18 ⟨Nat.le_of_ble_eq_true rfl, Nat.le_of_ble_eq_true rfl⟩) hS (fun q _ h => h) (fun q h => h) (fun r133 u9 t9 H1 locs ht9 hvm9 hw hB hz1 hk1 hS => ?_)
    have hH := zMv ht9 hvm9 hB
    clear hB
    generalize u9 = f134 at hw hH
    generalize H1 = H at hH hS ⊢
    obtain ⟨hrt, ⟨b8, hb8, qb8⟩, hf8⟩ := hw
    obtain ⟨b135, hb136, q137, hf138⟩ := (⟨b8, hb8, qb8, fun i k q => hf8 i k q⟩ : zTw f127 L f134)
    have q139 : f134 1 1 = nI L := by rw [hf138 1 1 (by omega)]; exact q132
    have hT := zTh.ci (fi' := f134) hT (fun i9 k9 h9 => hf138 i9 k9 (by omega))
    rcases hrt with ⟨t2, ht2, rfl⟩ | rfl
    · skip
      refine lv_astore_n (lv' := [(2, .ref (τ.1 (300 + t2))), (1, .null), (0, .ref (τ.1 0))]) hx hb dX11_readPlace_21 rfl hl (by decide) rfl (fun ls hl => ?_)
      refine lv_aload_nN hx hb dX11_readPlace_22 rfl (lv_at hl 1 rfl) ?_
      refine lv_ifnullN (tgt := 46) hx hb dX11_readPlace_23 (by decide) ?_
      refine W.widen (k := 0) (n := 0) (by decide) (by decide) ?_
      exact W.vret hx hb hr (fun t9 ht9 hW9 => ⟨⟨f134, rfl, ⟨⟨b135, by omega, q137⟩, fun i k h => by rw [hf138 i k (by omega), hf131 i k (by omega), hf106 i k (by omega)]⟩, zEnd1 hH ht9 hW9⟩, hS.F ht9⟩) hS.2.2 dX11_readPlace_46
    · skip
      refine lv_astore_nN (lv' := [(2, .null), (1, .null), (0, .ref (τ.1 0))]) hx hb dX11_readPlace_21 rfl hl (by decide) rfl (fun ls hl => ?_)
      refine lv_aload_nN hx hb dX11_readPlace_22 rfl (lv_at hl 1 rfl) ?_
      refine lv_ifnullN (tgt := 46) hx hb dX11_readPlace_23 (by decide) ?_
      refine W.widen (k := 0) (n := 0) (by decide) (by decide) ?_
      exact W.vret hx hb hr (fun t9 ht9 hW9 => ⟨⟨f134, rfl, ⟨⟨b135, by omega, q137⟩, fun i k h => by rw [hf138 i k (by omega), hf131 i k (by omega), hf106 i k (by omega)]⟩, zEnd1 hH ht9 hW9⟩, hS.F ht9⟩) hS.2.2 dX11_readPlace_46
set_option maxHeartbeats 4000000 in
set_option maxRecDepth 100000 in
/-- readRule -/
theorem w_readRule (l : Launch) (hl0 : l.stackTraces = false) (D : va_G) (A : Nat → Prop) (sad : Nat → Nat) (τ : zTy) (fi : zFi) (fr : zFr) (ol : Int64) (L a : Nat) (hF : zFix τ fr) (hn : fi 1 1 = nI L) (ha : fi 1 2 = nI a) (hn4 : L ≤ 400) (han : a ≤ L) (n : Nat) (hT : zTh τ fi fr n) : Met l yX11_readRule wsX11_readRule ({ frames := 7, cells := 0, slots := 0, locals := 151 }) (va_Pc [.ref (τ.1 0)] (zQc D A sad τ fi fr ol)) (va_Qv (fun (u : zFi) => (∃ b, b ≤ L ∧ u 1 2 = nI b) ∧ ∀ i k, ¬ ((i = 1 ∧ 2 ≤ k) ∨ i = 13 ∨ i = 14) → u i k = fi i k) (fun (u : zFi) (t : State) => zH D A τ u fr ol t t.heap) A) 0 0 A := by
  refine Met.ofW (cc := cX11_readRule) (maxL := 2) (ret := none) (by decide) rfl ?_
  intro p9 e9 s m args below meth c9 s₁ B hml hv
  obtain ⟨rfl, hz, hH, hA⟩ := hv
  have hx := B.exec
  have hb := B.bytes
  have hr := B.returns
  have hts := atoms_spec (ws := wsX11_readRule) B.pre
  have hown : s.vm.findClass RX11 = some m.cls := findClass_of_methodNamed B.named
  have hlocks := B.notSynchronized
  have hS : va_S A s.heap s.heap [] := va_S.rf
  have hl := lv_entry ([.ref (τ.1 0)]) (n := 2) (Nat.le_of_ble_eq_true rfl)
  rw [lg_entry_eq]
  generalize (lg_sl ([.ref (τ.1 0)]) ++ List.replicate (2 - (lg_sl ([.ref (τ.1 0)])).length) Slot.unset).toArray = ls at hl ⊢
  have hl : lv_has ls 2 [(0, .ref (τ.1 0))] := hl
  have hn30 := hT.1
  have hiX11 : ∀ w ∈ u_ws RX11 TX11 16, w ∈ wsX11_readRule := fun _ h => List.mem_cons_of_mem _ (List.mem_append_left _ (List.mem_append_left _ (List.mem_append_left _ (List.mem_append_left _ (List.mem_append_right _ h)))))
  have hw1 := hts (.fieldLink RX11 10 "PostHouse" "tape" "LPostHouse$Tape;") (by decide +kernel)
  have hw2 := hts (.fieldLink RX11 37 "PostHouse" "draft" "LPostHouse$Rules;") (by decide +kernel)
  have hiX5 : ∀ w ∈ u_ws RX5 TX5 2, w ∈ wsX11_readRule := fun _ h => List.mem_cons_of_mem _ (List.mem_append_left _ (List.mem_append_left _ (List.mem_append_right _ h)))
  have hw4 := hts (.fieldLink RX11 174 "PostHouse$Rules" "numbers" "[I") (by decide +kernel)
  have hw5 := hts (.fieldLink RX11 419 "PostHouse$Rules" "MOST" "[I") (by decide +kernel)
  have hiX7 : ∀ w ∈ u_ws RX7 TX7 4, w ∈ wsX11_readRule := fun _ h => List.mem_cons_of_mem _ (List.mem_append_left _ (List.mem_append_left _ (List.mem_append_left _ (List.mem_append_right _ h))))
  have hw7 := hts (.fieldLink RX11 413 "PostHouse$Tape" "next" "I") (by decide +kernel)
  refine lv_aload_n hx hb dX11_readRule_0 rfl (lv_at hl 0 rfl) ?_
  refine zGetR (D := D) (ci := 11) (C := RX11) (T := TX11) (N := 16) hx hb hts hiX11 hown hH (zk_0 hF) rfl 0 (by decide) rfl hw1 (fun _ h9 => h9) dX11_readRule_1 (zr_0_0 hF) ?_
  refine zLdcW hx hb hown (hz.1.2.2.2.1 0 _ rfl).2 dX11_readRule_4 ?_
  refine va_calli (va_runV (As := [.ref (sad 0)]) (rest := []) ⟨hx, hb, hml, hown, hts⟩ (t_takesWord l hl0 D A sad τ fi fr ol L a hF hn ha (by omega) (by omega) 0 ((401, "place", [112, 108, 97, 99, 101])) rfl) (cwV 1 hts gX11_readRule_X7_takesWord rfl rfl rfl (by decide +kernel) ⟨Nat.le_of_ble_eq_true rfl, Nat.le_of_ble_eq_true rfl⟩) ⟨zQc_bl, zRecv hH (zk_1 hF) rfl, zQc_at hz hS hA hH⟩ rfl rfl hl.1 rfl (lv_room (Nat.le_of_ble_eq_true rfl)) dX11_readRule_7 ⟨Nat.le_of_ble_eq_true rfl, Nat.le_of_ble_eq_true rfl⟩) hS (fun q _ h => h) (fun q h => h) (fun r101 u9 t9 H1 locs ht9 hvm9 hw hB hz1 hk1 hS => ?_)
  have hH := zMv ht9 hvm9 hB
  clear hB
  generalize u9 = f102 at hw hH
  generalize H1 = H at hH hS ⊢
  have hr01 : r101 = 1 ∨ r101 = 0 := hw.elim (fun h => Or.inl h.1) (fun h => Or.inr h.1)
  obtain ⟨b103, hb104, q105, hf106⟩ := zTw.takes ha (by omega) hw
  have q107 : f102 1 1 = nI L := by rw [hf106 1 1 (by omega)]; exact hn
  have hT := zTh.ci (fi' := f102) hT (fun i9 k9 h9 => hf106 i9 k9 (by omega))
  rcases hr01 with rfl | rfl
  · skip
    refine lv_if_eq (tgt := 18) hx hb dX11_readRule_10 (by decide) (fun c108 => absurd c108 (by decide)) (fun c108 => ?_)
    refine lv_aload_n hx hb dX11_readRule_13 rfl (lv_at hl 0 rfl) ?_
    refine va_callv (va_runV (As := []) (rest := []) ⟨hx, hb, hml, hown, hts⟩ (w_readPlace l hl0 D A sad τ f102 fr ol L b103 hF q107 q105 (by omega) (by omega) n hT) (cwV 0 hts gX11_readRule_X11_readPlace rfl rfl rfl (by decide +kernel) ⟨Nat.le_of_ble_eq_true rfl, Nat.le_of_ble_eq_true rfl⟩) ⟨zQc_bl, zRecv hH (zk_0 hF) rfl, zQc_at hz hS hA hH⟩ rfl rfl hl.1 rfl (lv_room (Nat.le_of_ble_eq_true rfl)) dX11_readRule_14 ⟨Nat.le_of_ble_eq_true rfl, Nat.le_of_ble_eq_true rfl⟩) hS (fun q _ h => h) (fun q h => h) (fun u9 t9 H1 locs ht9 hvm9 hw hB hz1 hk1 hS => ?_)
    have hH := zMv ht9 hvm9 hB
    clear hB
    generalize u9 = f110 at hw hH
    generalize H1 = H at hH hS ⊢
    obtain ⟨⟨b113, hb114, q112⟩, hf115⟩ := hw
    have q116 : f110 1 1 = nI L := by rw [hf115 1 1 (by omega)]; exact q107
    have hT := zTh.ci (fi' := f110) hT (fun i9 k9 h9 => hf115 i9 k9 (by omega))
    refine W.widen (k := 0) (n := 0) (by decide) (by decide) ?_
    exact W.vret hx hb hr (fun t9 ht9 hW9 => ⟨⟨f110, rfl, ⟨⟨b113, by omega, q112⟩, fun i k h => by rw [hf115 i k (by omega), hf106 i k (by omega)]⟩, zEnd1 hH ht9 hW9⟩, hS.F ht9⟩) hS.2.2 dX11_readRule_17
  · skip
    refine lv_if_eq (tgt := 18) hx hb dX11_readRule_10 (by decide) (fun c117 => ?_) (fun c117 => absurd (by decide) c117)
    refine lv_aload_n hx hb dX11_readRule_18 rfl (lv_at hl 0 rfl) ?_
    refine va_calli (va_runV (As := []) (rest := []) ⟨hx, hb, hml, hown, hts⟩ (w_readKind l hl0 D A sad τ f102 fr ol L b103 hF q107 q105 (by omega) (by omega)) (cwV 0 hts gX11_readRule_X11_readKind rfl rfl rfl (by decide +kernel) ⟨Nat.le_of_ble_eq_true rfl, Nat.le_of_ble_eq_true rfl⟩) ⟨zQc_bl, zRecv hH (zk_0 hF) rfl, zQc_at hz hS hA hH⟩ rfl rfl hl.1 rfl (lv_room (Nat.le_of_ble_eq_true rfl)) dX11_readRule_19 ⟨Nat.le_of_ble_eq_true rfl, Nat.le_of_ble_eq_true rfl⟩) hS (fun q _ h => h) (fun q h => h) (fun r118 u9 t9 H1 locs ht9 hvm9 hw hB hz1 hk1 hS => ?_)
    have hH := zMv ht9 hvm9 hB
    clear hB
    generalize u9 = f119 at hw hH
    generalize H1 = H at hH hS ⊢
    obtain ⟨hk, ⟨b122, hb123, q121⟩, hf124⟩ := hw
    have q125 : f119 1 1 = nI L := by rw [hf124 1 1 (by omega)]; exact q107
    have hT := zTh.ci (fi' := f119) hT (fun i9 k9 h9 => hf124 i9 k9 (by omega))
    rcases hk with ⟨kd, hkd, rfl⟩ | rfl
    · skip
      refine lv_istore_n (lv' := [(1, .int (nI kd)), (0, .ref (τ.1 0))]) hx hb dX11_readRule_22 rfl hl (by decide) rfl (fun ls hl => ?_)
      refine lv_iload_n hx hb dX11_readRule_23 rfl (lv_at hl 0 rfl) ?_
      refine lv_iconst (v := (-1)) hx hb dX11_readRule_24 (by decide) ?_
      refine lv_icmp_ne (tgt := 45) hx hb dX11_readRule_25 (by decide) (fun c126 => ?_) (fun c126 => False.elim (by have zc126 := zc_eq (nI_toInt (by omega)) ((by decide : ((-1) : Int32).toInt = (-1))) c126; omega))
      refine lv_aload_n hx hb dX11_readRule_45 rfl (lv_at hl 1 rfl) ?_
      refine zGetR (D := D) (ci := 11) (C := RX11) (T := TX11) (N := 16) hx hb hts hiX11 hown hH (zk_0 hF) rfl 4 (by decide) rfl hw2 (fun _ h9 => h9) dX11_readRule_46 (zr_0_4 hF) ?_
      refine zGetR (D := D) (ci := 5) (C := RX5) (T := TX5) (N := 2) hx hb hts hiX5 hown hH (zk_12 hF) rfl 0 (by decide) rfl hw4 (fun _ h9 => h9) dX11_readRule_49 (zr_12_0 hF) ?_
      refine lv_iload_n hx hb dX11_readRule_52 rfl (lv_at hl 0 rfl) ?_
      refine lv_aload_n hx hb dX11_readRule_53 rfl (lv_at hl 1 rfl) ?_
      refine zGetR (D := D) (ci := 11) (C := RX11) (T := TX11) (N := 16) hx hb hts hiX11 hown hH (zk_0 hF) rfl 0 (by decide) rfl hw1 (fun _ h9 => h9) dX11_readRule_54 (zr_0_0 hF) ?_
      refine lv_iconst (v := nI 0) hx hb dX11_readRule_57 (by decide) ?_
      refine va_gets hx hb (hz.2.2 0 _ rfl).1 hS hown hw5 (fun _ h9 => h9) dX11_readRule_58 ?_
      refine lv_iload_n hx hb dX11_readRule_61 rfl (lv_at hl 0 rfl) ?_
      refine zSti (i := 0) hx hb hz hS rfl (show kd < _ by simp only [List.length_cons, List.length_nil]; omega) (by decide) dX11_readRule_62 ?_
      refine lv_topi (fun v127 ev127 => ?_)
      refine va_calli (va_runV (As := [.int (nI 0), .int v127]) (rest := [.int (nI kd), .ref (τ.1 13)]) ⟨hx, hb, hml, hown, hts⟩ (t_number l hl0 D A sad τ f119 fr ol L b122 hF q125 q121 (by omega) (by omega) (nI 0) v127 (by decide)) (cwV 2 hts gX11_readRule_X7_number rfl rfl rfl (by decide +kernel) ⟨Nat.le_of_ble_eq_true rfl, Nat.le_of_ble_eq_true rfl⟩) ⟨zQc_bl, zRecv hH (zk_1 hF) rfl, zQc_at hz hS hA hH⟩ rfl rfl hl.1 rfl (lv_room (Nat.le_of_ble_eq_true rfl)) dX11_readRule_63 ⟨Nat.le_of_ble_eq_true rfl, Nat.le_of_ble_eq_true rfl⟩) hS (fun q _ h => h) (fun q h => h) (fun r128 u9 t9 H1 locs ht9 hvm9 hw hB hz1 hk1 hS => ?_)
      have hH := zMv ht9 hvm9 hB
      clear hB
      generalize u9 = f129 at hw hH
      generalize H1 = H at hH hS ⊢
      obtain ⟨b130, hb131, q132, hf133⟩ := zTw.num q121 (by omega) hw
      have q134 : f129 1 1 = nI L := by rw [hf133 1 1 (by omega)]; exact q125
      have hT := zTh.ci (fi' := f129) hT (fun i9 k9 h9 => hf133 i9 k9 (by omega))
      refine zIastN (D := D) hx hb hH hS (zk_13 hF) (zn_13 hF) (by omega) (by omega) dX11_readRule_66 (fun H locs hH hS => ?_)
      obtain ⟨f135, ef135⟩ : ∃ f9 : zFi, f9 = zu f129 13 kd r128 := ⟨_, rfl⟩
      rw [← ef135] at hH
      have q136 : f135 1 1 = nI L := by rw [ef135, zu_n (fun h9 => absurd h9.1 (by decide))]; exact q134
      have q137 : f135 1 2 = nI b130 := by rw [ef135, zu_n (fun h9 => absurd h9.1 (by decide))]; exact q132
      have q138 : f135 13 kd = r128 := by rw [ef135]; exact zu_s
      have hT := zTh.ci (fi' := f135) hT (fun i9 k9 h9 => by rw [ef135]; exact zu_n (by omega))
      refine W.widen (k := 0) (n := 0) (by decide) (by decide) ?_
      exact W.vret hx hb hr (fun t9 ht9 hW9 => ⟨⟨f135, rfl, ⟨⟨b130, by omega, q137⟩, fun i k h => by rw [ef135, zu_n (by omega), hf133 i k (by omega), hf124 i k (by omega), hf106 i k (by omega)]⟩, zEnd1 hH ht9 hW9⟩, hS.F ht9⟩) hS.2.2 dX11_readRule_67
    · skip
      refine lv_istore_n (lv' := [(1, .int ((-1))), (0, .ref (τ.1 0))]) hx hb dX11_readRule_22 rfl hl (by decide) rfl (fun ls hl => ?_)
      refine lv_iload_n hx hb dX11_readRule_23 rfl (lv_at hl 0 rfl) ?_
      refine lv_iconst (v := (-1)) hx hb dX11_readRule_24 (by decide) ?_
      refine lv_icmp_ne (tgt := 45) hx hb dX11_readRule_25 (by decide) (fun c139 => absurd (by decide) c139) (fun c139 => ?_)
      refine lv_aload_n hx hb dX11_readRule_28 rfl (lv_at hl 1 rfl) ?_
      refine zGetR (D := D) (ci := 11) (C := RX11) (T := TX11) (N := 16) hx hb hts hiX11 hown hH (zk_0 hF) rfl 0 (by decide) rfl hw1 (fun _ h9 => h9) dX11_readRule_29 (zr_0_0 hF) ?_
      refine lv_aload_n hx hb dX11_readRule_32 rfl (lv_at hl 1 rfl) ?_
      refine zGetR (D := D) (ci := 11) (C := RX11) (T := TX11) (N := 16) hx hb hts hiX11 hown hH (zk_0 hF) rfl 0 (by decide) rfl hw1 (fun _ h9 => h9) dX11_readRule_33 (zr_0_0 hF) ?_
      refine zGetI (D := D) (ci := 7) (C := RX7) (T := TX7) (N := 4) hx hb hts hiX7 hown hH (zk_1 hF) rfl 2 (by decide) rfl hw7 (fun _ h9 => h9) dX11_readRule_36 q121 ?_
      refine va_callv (va_runV (As := [.int (nI b122)]) (rest := []) ⟨hx, hb, hml, hown, hts⟩ (t_refuse l hl0 D A sad τ f119 fr ol hF (nI b122)) (cwV 1 hts gX11_readRule_X7_refuse rfl rfl rfl (by decide +kernel) ⟨Nat.le_of_ble_eq_true rfl, Nat.le_of_ble_eq_true rfl⟩) ⟨zQc_bl, zRecv hH (zk_1 hF) rfl, zQc_at hz hS hA hH⟩ rfl rfl hl.1 rfl (lv_room (Nat.le_of_ble_eq_true rfl)) dX11_readRule_39 ⟨Nat.le_of_ble_eq_true rfl, Nat.le_of_ble_eq_true rfl⟩) hS (fun q _ h => h) (fun q h => h) (fun u9 t9 H1 locs ht9 hvm9 hw hB hz1 hk1 hS => ?_)
      have hH := zMv ht9 hvm9 hB
      clear hB
      generalize u9 = f141 at hw hH
      generalize H1 = H at hH hS ⊢
      obtain ⟨b142, hb143, q144, hf145⟩ := zTw.ref (L := L) q121 (by omega) hw
      have q146 : f141 1 1 = nI L := by rw [hf145 1 1 (by omega)]; exact q125
      have hT := zTh.ci (fi' := f141) hT (fun i9 k9 h9 => hf145 i9 k9 (by omega))
      refine lv_goto (tgt := 67) hx hb dX11_readRule_42 (by decide) ?_
      refine W.widen (k := 0) (n := 0) (by decide) (by decide) ?_
      exact W.vret hx hb hr (fun t9 ht9 hW9 => ⟨⟨f141, rfl, ⟨⟨b142, by omega, q144⟩, fun i k h => by rw [hf145 i k (by omega), hf124 i k (by omega), hf106 i k (by omega)]⟩, zEnd1 hH ht9 hW9⟩, hS.F ht9⟩) hS.2.2 dX11_readRule_67
